def sbX (σ : SV) (a b : Nat) (k : Int32) : Int32 := if a = b then -1 else if (vRd (sV σ) a && vRd (sV σ) b) = false then -1 else jbc (vSafe (sCp σ (sV σ) a b).1 k)
def bsI (σ : SV) (k : Int32) (a : Nat) : Nat → Int32 × Int32 → Int32 × Int32
  | 0, z => z
  | b + 1, z => if (bsI σ k a b z).2 < sbX σ a b k then (10 * nI a + nI b, sbX σ a b k) else bsI σ k a b z
def bsO (σ : SV) (k : Int32) : Nat → Int32 × Int32
  | 0 => (-1, jbc (vSafe (sV σ) k))
  | a + 1 => bsI σ k a (vN (sV σ)) (bsO σ k a)
def a_best (σ : SV) (k w : Int32) : Int32 :=
  if ¬ (1 ≤ k.toInt ∧ k.toInt ≤ 6) ∨ inB w 2 = false then -2 else if w = 0 then (bsO σ k (vN (sV σ))).1 else (bsO σ k (vN (sV σ))).2
/-- the lot's next number, and what of it counts -/
def lzN (z : Int32) : Int32 := z * 1103515245 + 12345
def lzR (z : Int32) : Int32 := (Int32.toUInt32 z >>> (Int32.toUInt32 9 &&& Int32.toUInt32 31)).toInt32 - (Int32.toUInt32 z >>> (Int32.toUInt32 9 &&& Int32.toUInt32 31)).toInt32 / 100 * 100
def stF (σ : SV) (s : Int32) : Nat → Int32 × Int32
  | 0 => (sRs σ, s)
  | d + 1 => if bt (stF σ s d).1 d then (if lzR (lzN (stF σ s d).2) < sLi σ (vR (sV σ)) (vU (sV σ) d) then wo (stF σ s d).1 d else (stF σ s d).1, lzN (stF σ s d).2) else stF σ s d
def sSt (σ : SV) (s : Int32) : Int32 := (stF σ s (vN (sV σ))).1
def a_lot (σ : SV) (s : Int32) : Int32 := sWs σ (bt (vOr (sV σ) (bt (sSt σ s)))) 8
set_option maxRecDepth 100000 in
set_option maxHeartbeats 800000 in
theorem c_X11_safeBehind (t : CT) {σ : SV} {M : MM} (h : RC σ M){a b : Nat} (ha : a < vN (sV σ)) (hb : b < vN (sV σ)) (x3 : Int32) : XMet (wC t) yX11_safeBehind cX11_safeBehind 4 (some .int) 7 [.ref (t.1 0), .int (nI a), .int (nI b), .int x3] M (aR σ (sbX σ a b x3)) := by
  refine x_met RX11 (by decide) rfl (Nat.le_of_ble_eq_true rfl) (fun κ C X E => ?_)
  refine x_L (L' := [(0, .ref (t.1 0)), (1, .int (nI a)), (2, .int (nI b)), (3, .int x3)]) rfl ?_
  have hn6 := rc_n6 h
  have hq6 := rc_q6 h
  have hq := rc_q h
  have hN6 := h.1.1
  have hB := h.1.2.1
  have hta := nI_toInt (n := a) (by omega)
  have htb := nI_toInt (n := b) (by omega)
  refine x_iload_n (pc := 0) C 1 dX11_safeBehind_0 rfl ?_
  refine x_iload_n (pc := 1) C 2 dX11_safeBehind_1 rfl ?_
  refine x_icmp_eq (pc := 2) C 17 dX11_safeBehind_2 (by decide) (fun h2 => ?_) (fun h2 => ?_)
  · refine x_iconst (pc := 17) (v := (-1)) C dX11_safeBehind_17 rfl ?_
    exact x_iret (pc := 18) C X dX11_safeBehind_18 (fia (by
          unfold sbX
          repeat (first | with_reducible rfl | (refine (if_pos ?_).trans ?_; ((try simp only [inB_t, inB_f, i_lt, i_le, i_eq, ne_eq, Bool.not_eq_true, Bool.not_eq_false, hpB, decide_eq_true_eq, decide_eq_false_iff_not, li_0, li_1, li_2, li_3, li_4, li_5, li_6, li_7, li_8, li_9, li_10, li_20, li_40, li_99, li_100, li_255, li_899, li_999, li_m1, li_m2, li_m3, li_m4, li_m11, li_m12, li_m13, li_m14, li_m100] at hta htb h2 ⊢) <;> omega)) | (refine (if_neg ?_).trans ?_; ((try simp only [inB_t, inB_f, i_lt, i_le, i_eq, ne_eq, Bool.not_eq_true, Bool.not_eq_false, hpB, decide_eq_true_eq, decide_eq_false_iff_not, li_0, li_1, li_2, li_3, li_4, li_5, li_6, li_7, li_8, li_9, li_10, li_20, li_40, li_99, li_100, li_255, li_899, li_999, li_m1, li_m2, li_m3, li_m4, li_m11, li_m12, li_m13, li_m14, li_m100] at hta htb h2 ⊢) <;> omega)) | fail)
          all_goals (first | with_reducible rfl | (exfalso; ((try simp only [inB_t, inB_f, i_lt, i_le, i_eq, ne_eq, Bool.not_eq_true, Bool.not_eq_false, hpB, decide_eq_true_eq, decide_eq_false_iff_not, li_0, li_1, li_2, li_3, li_4, li_5, li_6, li_7, li_8, li_9, li_10, li_20, li_40, li_99, li_100, li_255, li_899, li_999, li_m1, li_m2, li_m3, li_m4, li_m11, li_m12, li_m13, li_m14, li_m100] at hta htb h2 ⊢) <;> omega)))) h)
  · refine x_aload_n (pc := 5) C 0 dX11_safeBehind_5 rfl ?_
    refine g_main_now (pc := 6) C E q2_1 dX11_safeBehind_6 ?_
    refine x_iload_n (pc := 9) C 1 dX11_safeBehind_9 rfl ?_
    refine x_iload_n (pc := 10) C 2 dX11_safeBehind_10 rfl ?_
    refine x_callV (pc := 11) C E [.int (nI a), .int (nI b)] [] (w_canCopy t (by decide : 0 < 3) h.2.1 (by omega) (by omega)) m_X10_canCopy q29_20 (xo_World (i := 0) (by omega)) rfl (by decide) (Nat.le_of_ble_eq_true rfl) dX11_safeBehind_11 rfl (k_I ?_)
    refine x_ifb_ne (pc := 14) C 19 dX11_safeBehind_14 (by decide) (fun h14 => ?_) (fun h14 => ?_)
    · refine x_aload_n (pc := 19) C 0 dX11_safeBehind_19 rfl ?_
      refine g_main_thought (pc := 20) C E q2_3 dX11_safeBehind_20 ?_
      refine x_aload_n (pc := 23) C 0 dX11_safeBehind_23 rfl ?_
      refine g_main_now (pc := 24) C E q2_1 dX11_safeBehind_24 ?_
      refine x_callV (pc := 27) C E [.ref (t.1 (7 + 0))] [] (c_think t h) m_X10_become q36_4 (xo_World (i := 2) (by omega)) rfl (by decide) (Nat.le_of_ble_eq_true rfl) dX11_safeBehind_27 rfl (fun r M27 hc27 => ?_)
      obtain ⟨rfl, hR27, hV27, hO27⟩ := hc27
      show XV κ (xP (wC t) M27) 30 _ []
      refine x_aload_n (pc := 30) C 0 dX11_safeBehind_30 rfl ?_
      refine g_main_thought (pc := 31) C E q2_3 dX11_safeBehind_31 ?_
      refine x_iload_n (pc := 34) C 1 dX11_safeBehind_34 rfl ?_
      refine x_iload_n (pc := 35) C 2 dX11_safeBehind_35 rfl ?_
      refine x_aload_n (pc := 36) C 0 dX11_safeBehind_36 rfl ?_
      refine x_callV (pc := 37) C E [] [.int (nI b), .int (nI a), .ref (t.1 (7 + 2))] (c_X11_rule t hR27) m_X11_rule q23_15 xo_main rfl (by decide) (Nat.le_of_ble_eq_true rfl) dX11_safeBehind_37 rfl (k_A ?_)
      refine x_callV (pc := 40) C E [.int (nI a), .int (nI b), .ref (t.1 (19 + 5 * (vR (sV σ))))] [] (c_copyT t hR27 hV27 (a := a) (b := b) (by omega) (by omega) (rc_q hR27)) m_X10_copyOnto q30_2 (xo_World (i := 2) (by omega)) rfl (by decide) (Nat.le_of_ble_eq_true rfl) dX11_safeBehind_40 rfl (fun r M40 hc40 => ?_)
      rw [sCp_eq] at hc40
      obtain ⟨rfl, hR40, hV40, hO40⟩ := hc40
      show XV κ (xP (wC t) M40) 43 _ [.int (nI (sCp σ (sV σ) a b).2)]
      refine x_pop (pc := 43) C dX11_safeBehind_43 rfl ?_
      refine x_aload_n (pc := 44) C 0 dX11_safeBehind_44 rfl ?_
      refine g_main_thought (pc := 45) C E q2_3 dX11_safeBehind_45 ?_
      refine x_iload_n (pc := 48) C 3 dX11_safeBehind_48 rfl ?_
      refine x_callV (pc := 49) C E [.int x3] [] (w_safe t (by decide : 2 < 3) hV40 _) m_X10_safe q34_9 (xo_World (i := 2) (by omega)) rfl (by decide) (Nat.le_of_ble_eq_true rfl) dX11_safeBehind_49 rfl (k_I ?_)
      refine x_callS (pc := 52) C E [.int (vSafe ((sCp σ (sV σ) a b).1) x3)] [] (c_bitCount t _ _) m_J6_bitCount_0f7a4 q23_8 rfl (by decide) (Nat.le_of_ble_eq_true rfl) dX11_safeBehind_52 rfl (k_I ?_)
      exact x_iret (pc := 55) C X dX11_safeBehind_55 (fia (by
            unfold sbX
            repeat (first | with_reducible rfl | (refine (if_pos ?_).trans ?_; ((try simp only [inB_t, inB_f, i_lt, i_le, i_eq, ne_eq, Bool.not_eq_true, Bool.not_eq_false, hpB, decide_eq_true_eq, decide_eq_false_iff_not, li_0, li_1, li_2, li_3, li_4, li_5, li_6, li_7, li_8, li_9, li_10, li_20, li_40, li_99, li_100, li_255, li_899, li_999, li_m1, li_m2, li_m3, li_m4, li_m11, li_m12, li_m13, li_m14, li_m100] at hta htb h2 h14 ⊢) <;> omega)) | (refine (if_neg ?_).trans ?_; ((try simp only [inB_t, inB_f, i_lt, i_le, i_eq, ne_eq, Bool.not_eq_true, Bool.not_eq_false, hpB, decide_eq_true_eq, decide_eq_false_iff_not, li_0, li_1, li_2, li_3, li_4, li_5, li_6, li_7, li_8, li_9, li_10, li_20, li_40, li_99, li_100, li_255, li_899, li_999, li_m1, li_m2, li_m3, li_m4, li_m11, li_m12, li_m13, li_m14, li_m100] at hta htb h2 h14 ⊢) <;> omega)) | fail)
            all_goals (first | with_reducible rfl | (exfalso; ((try simp only [inB_t, inB_f, i_lt, i_le, i_eq, ne_eq, Bool.not_eq_true, Bool.not_eq_false, hpB, decide_eq_true_eq, decide_eq_false_iff_not, li_0, li_1, li_2, li_3, li_4, li_5, li_6, li_7, li_8, li_9, li_10, li_20, li_40, li_99, li_100, li_255, li_899, li_999, li_m1, li_m2, li_m3, li_m4, li_m11, li_m12, li_m13, li_m14, li_m100] at hta htb h2 h14 ⊢) <;> omega)))) hR40)
    · refine x_iconst (pc := 17) (v := (-1)) C dX11_safeBehind_17 rfl ?_
      exact x_iret (pc := 18) C X dX11_safeBehind_18 (fia (by
            unfold sbX
            repeat (first | with_reducible rfl | (refine (if_pos ?_).trans ?_; ((try simp only [inB_t, inB_f, i_lt, i_le, i_eq, ne_eq, Bool.not_eq_true, Bool.not_eq_false, hpB, decide_eq_true_eq, decide_eq_false_iff_not, li_0, li_1, li_2, li_3, li_4, li_5, li_6, li_7, li_8, li_9, li_10, li_20, li_40, li_99, li_100, li_255, li_899, li_999, li_m1, li_m2, li_m3, li_m4, li_m11, li_m12, li_m13, li_m14, li_m100] at hta htb h2 h14 ⊢) <;> omega)) | (refine (if_neg ?_).trans ?_; ((try simp only [inB_t, inB_f, i_lt, i_le, i_eq, ne_eq, Bool.not_eq_true, Bool.not_eq_false, hpB, decide_eq_true_eq, decide_eq_false_iff_not, li_0, li_1, li_2, li_3, li_4, li_5, li_6, li_7, li_8, li_9, li_10, li_20, li_40, li_99, li_100, li_255, li_899, li_999, li_m1, li_m2, li_m3, li_m4, li_m11, li_m12, li_m13, li_m14, li_m100] at hta htb h2 h14 ⊢) <;> omega)) | fail)
            all_goals (first | with_reducible rfl | (exfalso; ((try simp only [inB_t, inB_f, i_lt, i_le, i_eq, ne_eq, Bool.not_eq_true, Bool.not_eq_false, hpB, decide_eq_true_eq, decide_eq_false_iff_not, li_0, li_1, li_2, li_3, li_4, li_5, li_6, li_7, li_8, li_9, li_10, li_20, li_40, li_99, li_100, li_255, li_899, li_999, li_m1, li_m2, li_m3, li_m4, li_m11, li_m12, li_m13, li_m14, li_m100] at hta htb h2 h14 ⊢) <;> omega)))) h)

set_option maxRecDepth 100000 in
set_option maxHeartbeats 800000 in
theorem c_X11_best (t : CT) {σ : SV} {M : MM} (h : RC σ M)(x1 x2 : Int32) : XMet (wC t) yX11_best cX11_best 8 (some .int) 8 [.ref (t.1 0), .int x1, .int x2] M (aR σ (a_best σ x1 x2)) := by
  refine x_met RX11 (by decide) rfl (Nat.le_of_ble_eq_true rfl) (fun κ C X E => ?_)
  refine x_L (L' := [(0, .ref (t.1 0)), (1, .int x1), (2, .int x2)]) rfl ?_
  have hn6 := rc_n6 h
  have hq6 := rc_q6 h
  have hq := rc_q h
  have hN6 := h.1.1
  have hB := h.1.2.1
  refine x_iload_n (pc := 0) C 1 dX11_best_0 rfl ?_
  refine x_callS (pc := 1) C E [.int x1] [] (c_X11_isHowMany t _ _) m_X11_isHowMany q35_21 rfl (by decide) (Nat.le_of_ble_eq_true rfl) dX11_best_1 rfl (k_I ?_)
  refine x_ifb_eq (pc := 4) C 16 dX11_best_4 (by decide) (fun h4 => ?_) (fun h4 => ?_)
  · refine x_bipush (pc := 16) (v := (-2)) C dX11_best_16 rfl ?_
    exact x_iret (pc := 18) C X dX11_best_18 (fia (by
          unfold a_best
          repeat (first | with_reducible rfl | (refine (if_pos ?_).trans ?_; ((try simp only [inB_t, inB_f, i_lt, i_le, i_eq, ne_eq, Bool.not_eq_true, Bool.not_eq_false, hpB, decide_eq_true_eq, decide_eq_false_iff_not, li_0, li_1, li_2, li_3, li_4, li_5, li_6, li_7, li_8, li_9, li_10, li_20, li_40, li_99, li_100, li_255, li_899, li_999, li_m1, li_m2, li_m3, li_m4, li_m11, li_m12, li_m13, li_m14, li_m100] at h4 ⊢) <;> omega)) | (refine (if_neg ?_).trans ?_; ((try simp only [inB_t, inB_f, i_lt, i_le, i_eq, ne_eq, Bool.not_eq_true, Bool.not_eq_false, hpB, decide_eq_true_eq, decide_eq_false_iff_not, li_0, li_1, li_2, li_3, li_4, li_5, li_6, li_7, li_8, li_9, li_10, li_20, li_40, li_99, li_100, li_255, li_899, li_999, li_m1, li_m2, li_m3, li_m4, li_m11, li_m12, li_m13, li_m14, li_m100] at h4 ⊢) <;> omega)) | fail)
          all_goals (first | with_reducible rfl | (exfalso; ((try simp only [inB_t, inB_f, i_lt, i_le, i_eq, ne_eq, Bool.not_eq_true, Bool.not_eq_false, hpB, decide_eq_true_eq, decide_eq_false_iff_not, li_0, li_1, li_2, li_3, li_4, li_5, li_6, li_7, li_8, li_9, li_10, li_20, li_40, li_99, li_100, li_255, li_899, li_999, li_m1, li_m2, li_m3, li_m4, li_m11, li_m12, li_m13, li_m14, li_m100] at h4 ⊢) <;> omega)))) h)
  · refine x_iload_n (pc := 7) C 2 dX11_best_7 rfl ?_
    refine x_if_lt (pc := 8) C 16 dX11_best_8 (by decide) (fun h8 => ?_) (fun h8 => ?_)
    · refine x_bipush (pc := 16) (v := (-2)) C dX11_best_16 rfl ?_
      exact x_iret (pc := 18) C X dX11_best_18 (fia (by
            unfold a_best
            repeat (first | with_reducible rfl | (refine (if_pos ?_).trans ?_; ((try simp only [inB_t, inB_f, i_lt, i_le, i_eq, ne_eq, Bool.not_eq_true, Bool.not_eq_false, hpB, decide_eq_true_eq, decide_eq_false_iff_not, li_0, li_1, li_2, li_3, li_4, li_5, li_6, li_7, li_8, li_9, li_10, li_20, li_40, li_99, li_100, li_255, li_899, li_999, li_m1, li_m2, li_m3, li_m4, li_m11, li_m12, li_m13, li_m14, li_m100] at h4 h8 ⊢) <;> omega)) | (refine (if_neg ?_).trans ?_; ((try simp only [inB_t, inB_f, i_lt, i_le, i_eq, ne_eq, Bool.not_eq_true, Bool.not_eq_false, hpB, decide_eq_true_eq, decide_eq_false_iff_not, li_0, li_1, li_2, li_3, li_4, li_5, li_6, li_7, li_8, li_9, li_10, li_20, li_40, li_99, li_100, li_255, li_899, li_999, li_m1, li_m2, li_m3, li_m4, li_m11, li_m12, li_m13, li_m14, li_m100] at h4 h8 ⊢) <;> omega)) | fail)
            all_goals (first | with_reducible rfl | (exfalso; ((try simp only [inB_t, inB_f, i_lt, i_le, i_eq, ne_eq, Bool.not_eq_true, Bool.not_eq_false, hpB, decide_eq_true_eq, decide_eq_false_iff_not, li_0, li_1, li_2, li_3, li_4, li_5, li_6, li_7, li_8, li_9, li_10, li_20, li_40, li_99, li_100, li_255, li_899, li_999, li_m1, li_m2, li_m3, li_m4, li_m11, li_m12, li_m13, li_m14, li_m100] at h4 h8 ⊢) <;> omega)))) h)
    · refine x_iload_n (pc := 11) C 2 dX11_best_11 rfl ?_
      refine x_iconst (pc := 12) (v := 1) C dX11_best_12 rfl ?_
      refine x_icmp_le (pc := 13) C 19 dX11_best_13 (by decide) (fun h13 => ?_) (fun h13 => ?_)
      · refine x_iconst (pc := 19) (v := (-1)) C dX11_best_19 rfl ?_
        refine x_istore_n (pc := 20) (L' := [(3, .int (-1)), (0, .ref (t.1 0)), (1, .int x1), (2, .int x2)]) C dX11_best_20 (by decide) rfl ?_
        refine x_aload_n (pc := 21) C 1 dX11_best_21 rfl ?_
        refine g_main_now (pc := 22) C E q2_1 dX11_best_22 ?_
        refine x_iload_n (pc := 25) C 2 dX11_best_25 rfl ?_
        refine x_callV (pc := 26) C E [.int x1] [] (w_safe t (by decide : 0 < 3) h.2.1 _) m_X10_safe q34_9 (xo_World (i := 0) (by omega)) rfl (by decide) (Nat.le_of_ble_eq_true rfl) dX11_best_26 rfl (k_I ?_)
        refine x_callS (pc := 29) C E [.int (vSafe (sV σ) x1)] [] (c_bitCount t _ _) m_J6_bitCount_0f7a4 q23_8 rfl (by decide) (Nat.le_of_ble_eq_true rfl) dX11_best_29 rfl (k_I ?_)
        refine x_istore (pc := 32) (L' := [(4, .int (jbc (vSafe (sV σ) x1))), (3, .int (-1)), (0, .ref (t.1 0)), (1, .int x1), (2, .int x2)]) C dX11_best_32 (by decide) rfl ?_
        refine x_iconst (pc := 34) (v := (nI 0)) C dX11_best_34 (by decide) ?_
        refine x_istore (pc := 35) (L' := [(5, .int (nI 0)), (4, .int (jbc (vSafe (sV σ) x1))), (3, .int (-1)), (0, .ref (t.1 0)), (1, .int x1), (2, .int x2)]) C dX11_best_35 (by decide) rfl ?_
        have loop37 : ∀ (k a : Nat) (p : Int32) (m : Int32) (y : Int32) (Mx : MM) , a + k = vN (sV σ) → p = (bsO σ x1 a).1 → m = (bsO σ x1 a).2 → y = nI a → RC σ Mx → XV κ (xP (wC t) Mx) 37 [(5, .int y), (4, .int m), (3, .int p), (0, .ref (t.1 0)), (1, .int x1), (2, .int x2)] [] := by
          intro k
          induction k with
            | zero =>
              intro a p m y Mx  hcnt ep em ey eMx
              subst ep
              subst em
              subst ey
              obtain rfl : vN (sV σ) = a := by omega
              refine x_iload (pc := 37) C 0 dX11_best_37 rfl ?_
              refine x_aload_n (pc := 39) C 3 dX11_best_39 rfl ?_
              refine g_main_now (pc := 40) C E q2_1 dX11_best_40 ?_
              refine g_World_size (pc := 43) C E (i := 0) (by omega) q19_2 dX11_best_43 ?_
              refine x_eq (show Mx (7 + 0) 2 = nI (vN (sV σ)) from rc_size eMx) ?_
              refine x_icmp_ge_t (pc := 46) C 107 dX11_best_46 (by decide) (nI_le (by omega) (by omega)) ?_
              refine x_iload_n (pc := 107) C 5 dX11_best_107 rfl ?_
              refine x_if_ne (pc := 108) C 115 dX11_best_108 (by decide) (fun h108 => ?_) (fun h108 => ?_)
              · refine x_iload (pc := 115) C 1 dX11_best_115 rfl ?_
                exact x_iret (pc := 117) C X dX11_best_117 (fia (by
                      unfold a_best
                      repeat (first | with_reducible rfl | (refine (if_pos ?_).trans ?_; ((try simp only [inB_t, inB_f, i_lt, i_le, i_eq, ne_eq, Bool.not_eq_true, Bool.not_eq_false, hpB, decide_eq_true_eq, decide_eq_false_iff_not, li_0, li_1, li_2, li_3, li_4, li_5, li_6, li_7, li_8, li_9, li_10, li_20, li_40, li_99, li_100, li_255, li_899, li_999, li_m1, li_m2, li_m3, li_m4, li_m11, li_m12, li_m13, li_m14, li_m100] at h4 h8 h13 h108 ⊢) <;> omega)) | (refine (if_neg ?_).trans ?_; ((try simp only [inB_t, inB_f, i_lt, i_le, i_eq, ne_eq, Bool.not_eq_true, Bool.not_eq_false, hpB, decide_eq_true_eq, decide_eq_false_iff_not, li_0, li_1, li_2, li_3, li_4, li_5, li_6, li_7, li_8, li_9, li_10, li_20, li_40, li_99, li_100, li_255, li_899, li_999, li_m1, li_m2, li_m3, li_m4, li_m11, li_m12, li_m13, li_m14, li_m100] at h4 h8 h13 h108 ⊢) <;> omega)) | fail)
                      all_goals (first | with_reducible rfl | (exfalso; ((try simp only [inB_t, inB_f, i_lt, i_le, i_eq, ne_eq, Bool.not_eq_true, Bool.not_eq_false, hpB, decide_eq_true_eq, decide_eq_false_iff_not, li_0, li_1, li_2, li_3, li_4, li_5, li_6, li_7, li_8, li_9, li_10, li_20, li_40, li_99, li_100, li_255, li_899, li_999, li_m1, li_m2, li_m3, li_m4, li_m11, li_m12, li_m13, li_m14, li_m100] at h4 h8 h13 h108 ⊢) <;> omega)))) eMx)
              · refine x_iload_n (pc := 111) C 2 dX11_best_111 rfl ?_
                refine x_goto (pc := 112) C 117 dX11_best_112 (by decide) ?_
                exact x_iret (pc := 117) C X dX11_best_117 (fia (by
                      unfold a_best
                      repeat (first | with_reducible rfl | (refine (if_pos ?_).trans ?_; ((try simp only [inB_t, inB_f, i_lt, i_le, i_eq, ne_eq, Bool.not_eq_true, Bool.not_eq_false, hpB, decide_eq_true_eq, decide_eq_false_iff_not, li_0, li_1, li_2, li_3, li_4, li_5, li_6, li_7, li_8, li_9, li_10, li_20, li_40, li_99, li_100, li_255, li_899, li_999, li_m1, li_m2, li_m3, li_m4, li_m11, li_m12, li_m13, li_m14, li_m100] at h4 h8 h13 h108 ⊢) <;> omega)) | (refine (if_neg ?_).trans ?_; ((try simp only [inB_t, inB_f, i_lt, i_le, i_eq, ne_eq, Bool.not_eq_true, Bool.not_eq_false, hpB, decide_eq_true_eq, decide_eq_false_iff_not, li_0, li_1, li_2, li_3, li_4, li_5, li_6, li_7, li_8, li_9, li_10, li_20, li_40, li_99, li_100, li_255, li_899, li_999, li_m1, li_m2, li_m3, li_m4, li_m11, li_m12, li_m13, li_m14, li_m100] at h4 h8 h13 h108 ⊢) <;> omega)) | fail)
                      all_goals (first | with_reducible rfl | (exfalso; ((try simp only [inB_t, inB_f, i_lt, i_le, i_eq, ne_eq, Bool.not_eq_true, Bool.not_eq_false, hpB, decide_eq_true_eq, decide_eq_false_iff_not, li_0, li_1, li_2, li_3, li_4, li_5, li_6, li_7, li_8, li_9, li_10, li_20, li_40, li_99, li_100, li_255, li_899, li_999, li_m1, li_m2, li_m3, li_m4, li_m11, li_m12, li_m13, li_m14, li_m100] at h4 h8 h13 h108 ⊢) <;> omega)))) eMx)
            | succ k ih =>
              intro a p m y Mx  hcnt ep em ey eMx
              subst ep
              subst em
              subst ey
              have hi37 : a < vN (sV σ) := by omega
              refine x_iload (pc := 37) C 0 dX11_best_37 rfl ?_
              refine x_aload_n (pc := 39) C 3 dX11_best_39 rfl ?_
              refine g_main_now (pc := 40) C E q2_1 dX11_best_40 ?_
              refine g_World_size (pc := 43) C E (i := 0) (by omega) q19_2 dX11_best_43 ?_
              refine x_eq (show Mx (7 + 0) 2 = nI (vN (sV σ)) from rc_size eMx) ?_
              refine x_icmp_ge_f (pc := 46) C 107 dX11_best_46 (by decide) (nI_ge (by omega) (by omega)) ?_
              refine x_iconst (pc := 49) (v := (nI 0)) C dX11_best_49 (by decide) ?_
              refine x_istore (pc := 50) (L' := [(6, .int (nI 0)), (5, .int (nI a)), (4, .int ((bsO σ x1 a).2)), (3, .int ((bsO σ x1 a).1)), (0, .ref (t.1 0)), (1, .int x1), (2, .int x2)]) C dX11_best_50 (by decide) rfl ?_
              have loop52 : ∀ (k b : Nat) (p : Int32) (m : Int32) (z : Int32) (My : MM) , b + k = vN (sV σ) → p = (bsI σ x1 a b (bsO σ x1 a)).1 → m = (bsI σ x1 a b (bsO σ x1 a)).2 → z = nI b → RC σ My → XV κ (xP (wC t) My) 52 [(6, .int z), (5, .int (nI a)), (4, .int m), (3, .int p), (0, .ref (t.1 0)), (1, .int x1), (2, .int x2)] [] := by
                intro k
                induction k with
                  | zero =>
                    intro b p m z My  hcnt ep em ez eMy
                    subst ep
                    subst em
                    subst ez
                    obtain rfl : vN (sV σ) = b := by omega
                    refine x_iload (pc := 52) C 0 dX11_best_52 rfl ?_
                    refine x_aload_n (pc := 54) C 4 dX11_best_54 rfl ?_
                    refine g_main_now (pc := 55) C E q2_1 dX11_best_55 ?_
                    refine g_World_size (pc := 58) C E (i := 0) (by omega) q19_2 dX11_best_58 ?_
                    refine x_eq (show My (7 + 0) 2 = nI (vN (sV σ)) from rc_size eMy) ?_
                    refine x_icmp_ge_t (pc := 61) C 101 dX11_best_61 (by decide) (nI_le (by omega) (by omega)) ?_
                    refine x_iinc (pc := 101) (v := nI (a + 1)) (L' := [(5, .int (nI (a + 1))), (6, .int (nI (vN (sV σ)))), (4, .int ((bsI σ x1 a (vN (sV σ)) (bsO σ x1 a)).2)), (3, .int ((bsI σ x1 a (vN (sV σ)) (bsO σ x1 a)).1)), (0, .ref (t.1 0)), (1, .int x1), (2, .int x2)]) C 1 dX11_best_101 rfl (nI_1 _) (by decide) rfl ?_
                    refine x_goto (pc := 104) C 37 dX11_best_104 (by decide) ?_
                    refine x_sub [0, 2, 3, 4, 5, 6] rfl ?_
                    exact ih (a + 1) _ _ _ _ (by omega) rfl rfl rfl (by assumption)
                  | succ k ih =>
                    intro b p m z My  hcnt ep em ez eMy
                    subst ep
                    subst em
                    subst ez
                    have hi52 : b < vN (sV σ) := by omega
                    refine x_iload (pc := 52) C 0 dX11_best_52 rfl ?_
                    refine x_aload_n (pc := 54) C 4 dX11_best_54 rfl ?_
                    refine g_main_now (pc := 55) C E q2_1 dX11_best_55 ?_
                    refine g_World_size (pc := 58) C E (i := 0) (by omega) q19_2 dX11_best_58 ?_
                    refine x_eq (show My (7 + 0) 2 = nI (vN (sV σ)) from rc_size eMy) ?_
                    refine x_icmp_ge_f (pc := 61) C 101 dX11_best_61 (by decide) (nI_ge (by omega) (by omega)) ?_
                    refine x_aload_n (pc := 64) C 4 dX11_best_64 rfl ?_
                    refine x_iload (pc := 65) C 1 dX11_best_65 rfl ?_
                    refine x_iload (pc := 67) C 0 dX11_best_67 rfl ?_
                    refine x_iload_n (pc := 69) C 5 dX11_best_69 rfl ?_
                    refine x_callV (pc := 70) C E [.int (nI a), .int (nI b), .int x1] [] (c_X11_safeBehind t eMy (a := a) (b := b) (by omega) (by omega) x1) m_X11_safeBehind q36_0 xo_main rfl (by decide) (Nat.le_of_ble_eq_true rfl) dX11_best_70 rfl (fun r M70 hc70 => ?_)
                    obtain ⟨rfl, hR70⟩ := hc70
                    show XV κ (xP (wC t) M70) 73 _ [.int (sbX σ a b x1)]
                    refine x_istore (pc := 73) (L' := [(7, .int (sbX σ a b x1)), (6, .int (nI b)), (5, .int (nI a)), (4, .int ((bsI σ x1 a b (bsO σ x1 a)).2)), (3, .int ((bsI σ x1 a b (bsO σ x1 a)).1)), (0, .ref (t.1 0)), (1, .int x1), (2, .int x2)]) C dX11_best_73 (by decide) rfl ?_
                    refine x_iload (pc := 75) C 0 dX11_best_75 rfl ?_
                    refine x_iload (pc := 77) C 3 dX11_best_77 rfl ?_
                    refine x_icmp_le (pc := 79) C 95 dX11_best_79 (by decide) (fun h79 => ?_) (fun h79 => ?_)
                    · refine x_iinc (pc := 95) (v := nI (b + 1)) (L' := [(6, .int (nI (b + 1))), (7, .int (sbX σ a b x1)), (5, .int (nI a)), (4, .int ((bsI σ x1 a b (bsO σ x1 a)).2)), (3, .int ((bsI σ x1 a b (bsO σ x1 a)).1)), (0, .ref (t.1 0)), (1, .int x1), (2, .int x2)]) C 1 dX11_best_95 rfl (nI_1 _) (by decide) rfl ?_
                      refine x_goto (pc := 98) C 52 dX11_best_98 (by decide) ?_
                      refine x_sub [0, 2, 3, 4, 5, 6, 7] rfl ?_
                      exact ih (b + 1) _ _ _ _ (by omega) (by rw [bsI]; simp [show ¬ (bsI σ x1 a b (bsO σ x1 a)).2 < sbX σ a b x1 from (by simp only [i_lt, i_le] at h79 ⊢; omega)]) (by rw [bsI]; simp [show ¬ (bsI σ x1 a b (bsO σ x1 a)).2 < sbX σ a b x1 from (by simp only [i_lt, i_le] at h79 ⊢; omega)]) rfl (by assumption)
                    · refine x_iload (pc := 82) C 0 dX11_best_82 rfl ?_
                      refine x_istore (pc := 84) (L' := [(4, .int (sbX σ a b x1)), (7, .int (sbX σ a b x1)), (6, .int (nI b)), (5, .int (nI a)), (3, .int ((bsI σ x1 a b (bsO σ x1 a)).1)), (0, .ref (t.1 0)), (1, .int x1), (2, .int x2)]) C dX11_best_84 (by decide) rfl ?_
                      refine x_bipush (pc := 86) (v := 10) C dX11_best_86 rfl ?_
                      refine x_iload (pc := 88) C 3 dX11_best_88 rfl ?_
                      refine x_imul (pc := 90) C dX11_best_90 ?_
                      refine x_iload (pc := 91) C 2 dX11_best_91 rfl ?_
                      refine x_iadd (pc := 93) C dX11_best_93 ?_
                      refine x_istore_n (pc := 94) (L' := [(3, .int ((10 * (nI a)) + (nI b))), (4, .int (sbX σ a b x1)), (7, .int (sbX σ a b x1)), (6, .int (nI b)), (5, .int (nI a)), (0, .ref (t.1 0)), (1, .int x1), (2, .int x2)]) C dX11_best_94 (by decide) rfl ?_
                      refine x_iinc (pc := 95) (v := nI (b + 1)) (L' := [(6, .int (nI (b + 1))), (3, .int ((10 * (nI a)) + (nI b))), (4, .int (sbX σ a b x1)), (7, .int (sbX σ a b x1)), (5, .int (nI a)), (0, .ref (t.1 0)), (1, .int x1), (2, .int x2)]) C 3 dX11_best_95 rfl (nI_1 _) (by decide) rfl ?_
                      refine x_goto (pc := 98) C 52 dX11_best_98 (by decide) ?_
                      refine x_sub [0, 4, 2, 1, 5, 6, 7] rfl ?_
                      exact ih (b + 1) _ _ _ _ (by omega) (by rw [bsI]; simp [show (bsI σ x1 a b (bsO σ x1 a)).2 < sbX σ a b x1 from (by simp only [i_lt, i_le] at h79 ⊢; omega)]) (by rw [bsI]; simp [show (bsI σ x1 a b (bsO σ x1 a)).2 < sbX σ a b x1 from (by simp only [i_lt, i_le] at h79 ⊢; omega)]) rfl (by assumption)
              refine x_sub [0, 1, 2, 3, 4, 5, 6] rfl ?_
              exact loop52 (vN (sV σ)) 0 _ _ _ _ (by omega) rfl rfl rfl (by assumption)
        refine x_sub [0, 1, 2, 3, 4, 5] rfl ?_
        exact loop37 (vN (sV σ)) 0 _ _ _ _ (by omega) rfl rfl rfl h
      · refine x_bipush (pc := 16) (v := (-2)) C dX11_best_16 rfl ?_
        exact x_iret (pc := 18) C X dX11_best_18 (fia (by
              unfold a_best
              repeat (first | with_reducible rfl | (refine (if_pos ?_).trans ?_; ((try simp only [inB_t, inB_f, i_lt, i_le, i_eq, ne_eq, Bool.not_eq_true, Bool.not_eq_false, hpB, decide_eq_true_eq, decide_eq_false_iff_not, li_0, li_1, li_2, li_3, li_4, li_5, li_6, li_7, li_8, li_9, li_10, li_20, li_40, li_99, li_100, li_255, li_899, li_999, li_m1, li_m2, li_m3, li_m4, li_m11, li_m12, li_m13, li_m14, li_m100] at h4 h8 h13 ⊢) <;> omega)) | (refine (if_neg ?_).trans ?_; ((try simp only [inB_t, inB_f, i_lt, i_le, i_eq, ne_eq, Bool.not_eq_true, Bool.not_eq_false, hpB, decide_eq_true_eq, decide_eq_false_iff_not, li_0, li_1, li_2, li_3, li_4, li_5, li_6, li_7, li_8, li_9, li_10, li_20, li_40, li_99, li_100, li_255, li_899, li_999, li_m1, li_m2, li_m3, li_m4, li_m11, li_m12, li_m13, li_m14, li_m100] at h4 h8 h13 ⊢) <;> omega)) | fail)
              all_goals (first | with_reducible rfl | (exfalso; ((try simp only [inB_t, inB_f, i_lt, i_le, i_eq, ne_eq, Bool.not_eq_true, Bool.not_eq_false, hpB, decide_eq_true_eq, decide_eq_false_iff_not, li_0, li_1, li_2, li_3, li_4, li_5, li_6, li_7, li_8, li_9, li_10, li_20, li_40, li_99, li_100, li_255, li_899, li_999, li_m1, li_m2, li_m3, li_m4, li_m11, li_m12, li_m13, li_m14, li_m100] at h4 h8 h13 ⊢) <;> omega)))) h)

set_option maxRecDepth 100000 in
set_option maxHeartbeats 800000 in
theorem c_X11_stayers (t : CT) {σ : SV} {M : MM} (h : RC σ M)(x1 : Int32) : XMet (wC t) yX11_stayers cX11_stayers 5 (some .int) 6 [.ref (t.1 0), .int x1] M (aR σ (sSt σ x1)) := by
  refine x_met RX11 (by decide) rfl (Nat.le_of_ble_eq_true rfl) (fun κ C X E => ?_)
  refine x_L (L' := [(0, .ref (t.1 0)), (1, .int x1)]) rfl ?_
  have hn6 := rc_n6 h
  have hq6 := rc_q6 h
  have hq := rc_q h
  have hN6 := h.1.1
  have hB := h.1.2.1
  refine x_aload_n (pc := 0) C 0 dX11_stayers_0 rfl ?_
  refine g_main_now (pc := 1) C E q2_1 dX11_stayers_1 ?_
  refine x_callV (pc := 4) C E [] [] (w_readers t (by decide : 0 < 3) h.2.1 ) m_X10_readers q33_22 (xo_World (i := 0) (by omega)) rfl (by decide) (Nat.le_of_ble_eq_true rfl) dX11_stayers_4 rfl (k_I ?_)
  refine x_eq (show mk (vRd (sV σ)) (vN (sV σ)) = sRs σ from rfl) ?_
  refine x_istore_n (pc := 7) (L' := [(2, .int (sRs σ)), (0, .ref (t.1 0)), (1, .int x1)]) C dX11_stayers_7 (by decide) rfl ?_
  refine x_iload_n (pc := 8) C 2 dX11_stayers_8 rfl ?_
  refine x_istore_n (pc := 9) (L' := [(3, .int x1), (2, .int (sRs σ)), (0, .ref (t.1 0)), (1, .int x1)]) C dX11_stayers_9 (by decide) rfl ?_
  refine x_iconst (pc := 10) (v := (nI 0)) C dX11_stayers_10 (by decide) ?_
  refine x_istore (pc := 11) (L' := [(4, .int (nI 0)), (3, .int x1), (2, .int (sRs σ)), (0, .ref (t.1 0)), (1, .int x1)]) C dX11_stayers_11 (by decide) rfl ?_
  have loop13 : ∀ (k i : Nat) (s : Int32) (z : Int32) (y : Int32) (Mx : MM) , i + k = vN (sV σ) → s = (stF σ x1 i).1 → z = (stF σ x1 i).2 → y = nI i → RC σ Mx → XV κ (xP (wC t) Mx) 13 [(4, .int y), (3, .int z), (2, .int s), (0, .ref (t.1 0)), (1, .int x1)] [] := by
    intro k
    induction k with
      | zero =>
        intro i s z y Mx  hcnt es ez ey eMx
        subst es
        subst ez
        subst ey
        obtain rfl : vN (sV σ) = i := by omega
        refine x_iload (pc := 13) C 0 dX11_stayers_13 rfl ?_
        refine x_aload_n (pc := 15) C 3 dX11_stayers_15 rfl ?_
        refine g_main_now (pc := 16) C E q2_1 dX11_stayers_16 ?_
        refine g_World_size (pc := 19) C E (i := 0) (by omega) q19_2 dX11_stayers_19 ?_
        refine x_eq (show Mx (7 + 0) 2 = nI (vN (sV σ)) from rc_size eMx) ?_
        refine x_icmp_ge_t (pc := 22) C 94 dX11_stayers_22 (by decide) (nI_le (by omega) (by omega)) ?_
        refine x_iload_n (pc := 94) C 2 dX11_stayers_94 rfl ?_
        exact x_iret (pc := 95) C X dX11_stayers_95 (fia rfl eMx)
      | succ k ih =>
        intro i s z y Mx  hcnt es ez ey eMx
        subst es
        subst ez
        subst ey
        have hi13 : i < vN (sV σ) := by omega
        refine x_iload (pc := 13) C 0 dX11_stayers_13 rfl ?_
        refine x_aload_n (pc := 15) C 3 dX11_stayers_15 rfl ?_
        refine g_main_now (pc := 16) C E q2_1 dX11_stayers_16 ?_
        refine g_World_size (pc := 19) C E (i := 0) (by omega) q19_2 dX11_stayers_19 ?_
        refine x_eq (show Mx (7 + 0) 2 = nI (vN (sV σ)) from rc_size eMx) ?_
        refine x_icmp_ge_f (pc := 22) C 94 dX11_stayers_22 (by decide) (nI_ge (by omega) (by omega)) ?_
        refine x_iload_n (pc := 25) C 2 dX11_stayers_25 rfl ?_
        refine x_iload (pc := 26) C 0 dX11_stayers_26 rfl ?_
        refine x_callS (pc := 28) C E [.int ((stF σ x1 i).1), .int (nI i)] [] (c_X11_isIn t _ _ (by omega)) m_X11_isIn q34_4 rfl (by decide) (Nat.le_of_ble_eq_true rfl) dX11_stayers_28 rfl (k_I ?_)
        refine x_ifb_eq (pc := 31) C 88 dX11_stayers_31 (by decide) (fun h31 => ?_) (fun h31 => ?_)
        · refine x_iinc (pc := 88) (v := nI (i + 1)) (L' := [(4, .int (nI (i + 1))), (3, .int ((stF σ x1 i).2)), (2, .int ((stF σ x1 i).1)), (0, .ref (t.1 0)), (1, .int x1)]) C 0 dX11_stayers_88 rfl (nI_1 _) (by decide) rfl ?_
          refine x_goto (pc := 91) C 13 dX11_stayers_91 (by decide) ?_
          refine x_sub [0, 1, 2, 3, 4] rfl ?_
          exact ih (i + 1) _ _ _ _ (by omega) (by rw [stF]; simp [h31]) (by rw [stF]; simp [h31]) rfl (by assumption)
        · refine x_iload_n (pc := 34) C 1 dX11_stayers_34 rfl ?_
          refine x_ldcw (pc := 35) (v := 1103515245) C q44_4 dX11_stayers_35 ?_
          refine x_imul (pc := 38) C dX11_stayers_38 ?_
          refine x_sipush (pc := 39) (v := 12345) C dX11_stayers_39 rfl ?_
          refine x_iadd (pc := 42) C dX11_stayers_42 ?_
          refine x_eq (show (((stF σ x1 i).2) * 1103515245) + 12345 = lzN (stF σ x1 i).2 from rfl) ?_
          refine x_istore_n (pc := 43) (L' := [(3, .int (lzN (stF σ x1 i).2)), (4, .int (nI i)), (2, .int ((stF σ x1 i).1)), (0, .ref (t.1 0)), (1, .int x1)]) C dX11_stayers_43 (by decide) rfl ?_
          refine x_iload_n (pc := 44) C 0 dX11_stayers_44 rfl ?_
          refine x_bipush (pc := 45) (v := 9) C dX11_stayers_45 rfl ?_
          refine x_iushr (pc := 47) C dX11_stayers_47 ?_
          refine x_bipush (pc := 48) (v := 100) C dX11_stayers_48 rfl ?_
          refine x_irem (pc := 50) C dX11_stayers_50 (by decide) ?_
          refine x_eq (show ((Int32.toUInt32 (lzN (stF σ x1 i).2) >>> (Int32.toUInt32 9 &&& Int32.toUInt32 31)).toInt32) - ((Int32.toUInt32 (lzN (stF σ x1 i).2) >>> (Int32.toUInt32 9 &&& Int32.toUInt32 31)).toInt32) / 100 * 100 = lzR (lzN (stF σ x1 i).2) from rfl) ?_
          refine x_aload_n (pc := 51) C 3 dX11_stayers_51 rfl ?_
          refine x_callV (pc := 52) C E [] [.int (lzR (lzN (stF σ x1 i).2))] (c_X11_rule t eMx) m_X11_rule q23_15 xo_main rfl (by decide) (Nat.le_of_ble_eq_true rfl) dX11_stayers_52 rfl (k_A ?_)
          refine x_aload_n (pc := 55) C 3 dX11_stayers_55 rfl ?_
          refine g_main_now (pc := 56) C E q2_1 dX11_stayers_56 ?_
          refine g_World_disks (pc := 59) C E (i := 0) (by omega) q12_15 dX11_stayers_59 ?_
          refine x_iload (pc := 62) C 1 dX11_stayers_62 rfl ?_
          refine l_disks (pc := 64) C E (i := 0) (by omega) (by omega) dX11_stayers_64 ?_
          refine g_Disk_number (pc := 65) C E (by omega) q12_16 dX11_stayers_65 ?_
          refine x_eq (show Mx (62 + 3 * (6 * 0 + i)) 1 = vU (sV σ) i from rc_num eMx (by omega)) ?_
          refine x_aload_n (pc := 68) C 3 dX11_stayers_68 rfl ?_
          refine g_main_now (pc := 69) C E q2_1 dX11_stayers_69 ?_
          refine g_World_day (pc := 72) C E (i := 0) (by omega) q12_14 dX11_stayers_72 ?_
          refine x_eq (show Mx (7 + 0) 0 = vD (sV σ) from rc_day eMx) ?_
          refine x_callV (pc := 75) C E [.int (vU (sV σ) i), .int (vD (sV σ))] [.int (lzR (lzN (stF σ x1 i).2))] (c_likely t eMx (rc_q eMx) _ _ rfl) m_X6_likelihood q23_20 (xo_Rule (by omega)) rfl (by decide) (Nat.le_of_ble_eq_true rfl) dX11_stayers_75 rfl (fun r M75 hc75 => ?_)
          obtain ⟨rfl, hR75⟩ := hc75
          show XV κ (xP (wC t) M75) 78 _ [.int (sLi σ (vR (sV σ)) (vU (sV σ) i)), .int (lzR (lzN (stF σ x1 i).2))]
          refine x_icmp_ge (pc := 78) C 88 dX11_stayers_78 (by decide) (fun h78 => ?_) (fun h78 => ?_)
          · refine x_iinc (pc := 88) (v := nI (i + 1)) (L' := [(4, .int (nI (i + 1))), (3, .int (lzN (stF σ x1 i).2)), (2, .int ((stF σ x1 i).1)), (0, .ref (t.1 0)), (1, .int x1)]) C 1 dX11_stayers_88 rfl (nI_1 _) (by decide) rfl ?_
            refine x_goto (pc := 91) C 13 dX11_stayers_91 (by decide) ?_
            refine x_sub [0, 1, 2, 3, 4] rfl ?_
            exact ih (i + 1) _ _ _ _ (by omega) (by rw [stF]; simp [h31, show ¬ lzR (lzN (stF σ x1 i).2) < sLi σ (vR (sV σ)) (vU (sV σ) i) from (by simp only [i_lt, i_le] at h78 ⊢; omega)]) (by rw [stF]; simp [h31, show ¬ lzR (lzN (stF σ x1 i).2) < sLi σ (vR (sV σ)) (vU (sV σ) i) from (by simp only [i_lt, i_le] at h78 ⊢; omega)]) rfl (by assumption)
          · refine x_iload_n (pc := 81) C 2 dX11_stayers_81 rfl ?_
            refine x_iload (pc := 82) C 1 dX11_stayers_82 rfl ?_
            refine x_callS (pc := 84) C E [.int ((stF σ x1 i).1), .int (nI i)] [] (c_X11_without t _ _ _) m_X11_without q38_8 rfl (by decide) (Nat.le_of_ble_eq_true rfl) dX11_stayers_84 rfl (k_I ?_)
            refine x_istore_n (pc := 87) (L' := [(2, .int (wo ((stF σ x1 i).1) i)), (3, .int (lzN (stF σ x1 i).2)), (4, .int (nI i)), (0, .ref (t.1 0)), (1, .int x1)]) C dX11_stayers_87 (by decide) rfl ?_
            refine x_iinc (pc := 88) (v := nI (i + 1)) (L' := [(4, .int (nI (i + 1))), (2, .int (wo ((stF σ x1 i).1) i)), (3, .int (lzN (stF σ x1 i).2)), (0, .ref (t.1 0)), (1, .int x1)]) C 2 dX11_stayers_88 rfl (nI_1 _) (by decide) rfl ?_
            refine x_goto (pc := 91) C 13 dX11_stayers_91 (by decide) ?_
            refine x_sub [0, 2, 1, 3, 4] rfl ?_
            exact ih (i + 1) _ _ _ _ (by omega) (by rw [stF]; simp [h31, show lzR (lzN (stF σ x1 i).2) < sLi σ (vR (sV σ)) (vU (sV σ) i) from (by simp only [i_lt, i_le] at h78 ⊢; omega)]) (by rw [stF]; simp [h31, show lzR (lzN (stF σ x1 i).2) < sLi σ (vR (sV σ)) (vU (sV σ) i) from (by simp only [i_lt, i_le] at h78 ⊢; omega)]) rfl (by assumption)
  refine x_sub [0, 1, 2, 3, 4] rfl ?_
  exact loop13 (vN (sV σ)) 0 _ _ _ _ (by omega) rfl rfl rfl h

set_option maxRecDepth 100000 in
set_option maxHeartbeats 800000 in
theorem c_X11_lot (t : CT) {σ : SV} {M : MM} (h : RC σ M)(x1 : Int32) : XMet (wC t) yX11_lot cX11_lot 2 (some .int) 7 [.ref (t.1 0), .int x1] M (aR σ (a_lot σ x1)) := by
  refine x_met RX11 (by decide) rfl (Nat.le_of_ble_eq_true rfl) (fun κ C X E => ?_)
  refine x_L (L' := [(0, .ref (t.1 0)), (1, .int x1)]) rfl ?_
  have hn6 := rc_n6 h
  have hq6 := rc_q6 h
  have hq := rc_q h
  have hN6 := h.1.1
  have hB := h.1.2.1
  refine x_aload_n (pc := 0) C 0 dX11_lot_0 rfl ?_
  refine x_aload_n (pc := 1) C 0 dX11_lot_1 rfl ?_
  refine g_main_now (pc := 2) C E q2_1 dX11_lot_2 ?_
  refine x_aload_n (pc := 5) C 0 dX11_lot_5 rfl ?_
  refine x_iload_n (pc := 6) C 1 dX11_lot_6 rfl ?_
  refine x_callV (pc := 7) C E [.int x1] [.ref (t.1 (7 + 0)), .ref (t.1 0)] (c_X11_stayers t h _) m_X11_stayers q44_0 xo_main rfl (by decide) (Nat.le_of_ble_eq_true rfl) dX11_lot_7 rfl (fun r M7 hc7 => ?_)
  obtain ⟨rfl, hR7⟩ := hc7
  show XV κ (xP (wC t) M7) 10 _ [.int (sSt σ x1), .ref (t.1 (7 + 0)), .ref (t.1 0)]
  refine x_callV (pc := 10) C E [.int (sSt σ x1)] [.ref (t.1 0)] (w_filesOn t (by decide : 0 < 3) hR7.2.1 _) m_X10_filesOn q33_23 (xo_World (i := 0) (by omega)) rfl (by decide) (Nat.le_of_ble_eq_true rfl) dX11_lot_10 rfl (k_I ?_)
  refine x_callV (pc := 13) C E [.int (vOr (sV σ) (bt (sSt σ x1)))] [] (c_X11_worthOf t hR7 _) m_X11_worthOf q34_0 xo_main rfl (by decide) (Nat.le_of_ble_eq_true rfl) dX11_lot_13 rfl (fun r M13 hc13 => ?_)
  obtain ⟨rfl, hR13⟩ := hc13
  show XV κ (xP (wC t) M13) 16 _ [.int (sWs σ (bt (vOr (sV σ) (bt (sSt σ x1)))) 8)]
  exact x_iret (pc := 16) C X dX11_lot_16 (fia rfl hR13)

