theorem film1_V (σ : SV) (s d f : Nat) : sV (film1 σ s d f) = sV σ := by
  induction f with
  | zero => rfl
  | succ f ih => exact ih
theorem film1_s (σ : SV) (s d f : Nat) : (sH (film1 σ s d f) s).1 = 1 ∧ (sH (film1 σ s d f) s).2.1 = 8 := by
  cases f with
  | zero =>
    have e : sH (film1 σ s d 0) s = (1, 8, fun _ => 0) := if_pos rfl
    rw [e]
    exact ⟨rfl, rfl⟩
  | succ f =>
    have e : sH (film1 σ s d (f + 1)) s = (1, 8, fun k => if k = f then shV 1 (vC (sV σ) d f) else (sH (film1 σ s d f) s).2.2 k) := if_pos rfl
    rw [e]
    exact ⟨rfl, rfl⟩
theorem film1_p {σ : SV} {M : MM} {s d f : Nat} (h : RC (film1 σ s d f) M) (hs : s < 4) (hf : f < 8) : RC (film1 σ s d (f + 1)) (mu M (55 + 2 * s) f (shV (M (54 + 2 * s) 1) (vC (sV σ) d f))) := by
  have e := rc_put1 h hs (by rw [(film1_s σ s d f).1]; decide) (by rw [(film1_s σ s d f).2]; exact hf) (vC (sV σ) d f)
  rw [(film1_s σ s d f).1, (film1_s σ s d f).2] at e
  exact e
theorem film1_c {σ : SV} {M : MM} {s d f g : Nat} (h : RC (film1 σ s d f) M) (hd : d < vN (sV σ)) (hg : g < 8) : M (63 + 3 * (6 * 0 + d)) g = vC (sV σ) d g := by
  have e := rc_ct h (d := d) (f := g) (by rw [film1_V]; exact hd) hg
  rw [film1_V] at e
  exact e
set_option maxRecDepth 100000 in
set_option maxHeartbeats 800000 in
theorem c_X11_film (t : CT) {σ : SV} {M : MM} (h : RC σ M)(x1 x2 : Int32) : XMet (wC t) yX11_film cX11_film 4 (some .int) 3 [.ref (t.1 0), .int x1, .int x2] M (oR (o_film σ x1 x2)) := by
  refine x_met RX11 (by decide) rfl (Nat.le_of_ble_eq_true rfl) (fun κ C X E => ?_)
  refine x_L (L' := [(0, .ref (t.1 0)), (1, .int x1), (2, .int x2)]) rfl ?_
  have hn6 := rc_n6 h
  have hq6 := rc_q6 h
  have hq := rc_q h
  have hN6 := h.1.1
  have hB := h.1.2.1
  refine x_iload_n (pc := 0) C 1 dX11_film_0 rfl ?_
  refine x_callS (pc := 1) C E [.int x1] [] (c_X11_isSheet t _ _) m_X11_isSheet q39_22 rfl (by decide) (Nat.le_of_ble_eq_true rfl) dX11_film_1 rfl (k_I ?_)
  refine x_ifb_eq (pc := 4) C 18 dX11_film_4 (by decide) (fun h4 => ?_) (fun h4 => ?_)
  · refine x_bipush (pc := 18) (v := (-2)) C dX11_film_18 rfl ?_
    exact x_iret (pc := 20) C X dX11_film_20 (fin (by
          unfold o_film
          repeat (first | with_reducible rfl | (refine (if_pos ?_).trans ?_; ((try simp only [inB_t, inB_f, i_lt, i_le, i_eq, ne_eq, Bool.not_eq_true, Bool.not_eq_false, hpB, decide_eq_true_eq, decide_eq_false_iff_not, li_0, li_1, li_2, li_3, li_4, li_5, li_6, li_7, li_8, li_9, li_10, li_20, li_40, li_99, li_100, li_255, li_899, li_999, li_m1, li_m2, li_m3, li_m4, li_m11, li_m12, li_m13, li_m14, li_m100] at h4 ⊢) <;> omega)) | (refine (if_neg ?_).trans ?_; ((try simp only [inB_t, inB_f, i_lt, i_le, i_eq, ne_eq, Bool.not_eq_true, Bool.not_eq_false, hpB, decide_eq_true_eq, decide_eq_false_iff_not, li_0, li_1, li_2, li_3, li_4, li_5, li_6, li_7, li_8, li_9, li_10, li_20, li_40, li_99, li_100, li_255, li_899, li_999, li_m1, li_m2, li_m3, li_m4, li_m11, li_m12, li_m13, li_m14, li_m100] at h4 ⊢) <;> omega)) | fail)
          all_goals (first | with_reducible rfl | (exfalso; ((try simp only [inB_t, inB_f, i_lt, i_le, i_eq, ne_eq, Bool.not_eq_true, Bool.not_eq_false, hpB, decide_eq_true_eq, decide_eq_false_iff_not, li_0, li_1, li_2, li_3, li_4, li_5, li_6, li_7, li_8, li_9, li_10, li_20, li_40, li_99, li_100, li_255, li_899, li_999, li_m1, li_m2, li_m3, li_m4, li_m11, li_m12, li_m13, li_m14, li_m100] at h4 ⊢) <;> omega)))) h)
  · obtain ⟨s, hs, es⟩ := inB_of h4 (by omega)
    have hts := nI_toInt (n := s) (by omega)
    have hos := oN_nI (n := s) (by omega)
    subst es
    refine x_aload_n (pc := 7) C 0 dX11_film_7 rfl ?_
    refine g_main_now (pc := 8) C E q2_1 dX11_film_8 ?_
    refine x_iload_n (pc := 11) C 2 dX11_film_11 rfl ?_
    refine x_callV (pc := 12) C E [.int x2] [] (w_has t (by decide : 0 < 3) h.2.1 _) m_X10_has q12_18 (xo_World (i := 0) (by omega)) rfl (by decide) (Nat.le_of_ble_eq_true rfl) dX11_film_12 rfl (k_I ?_)
    refine x_ifb_ne (pc := 15) C 21 dX11_film_15 (by decide) (fun h15 => ?_) (fun h15 => ?_)
    · obtain ⟨d, hd, ed⟩ := inB_of h15 (by omega)
      have htd := nI_toInt (n := d) (by omega)
      have hod := oN_nI (n := d) (by omega)
      subst ed
      refine x_aload_n (pc := 21) C 0 dX11_film_21 rfl ?_
      refine g_main_sheets (pc := 22) C E q1_17 dX11_film_22 ?_
      refine x_iload_n (pc := 25) C 1 dX11_film_25 rfl ?_
      refine l_sheets (pc := 26) C E (by omega) dX11_film_26 ?_
      refine x_iconst (pc := 27) (v := 1) C dX11_film_27 rfl ?_
      refine x_bipush (pc := 28) (v := (nI 8)) C dX11_film_28 (by decide) ?_
      refine x_callV (pc := 30) C E [.int 1, .int (nI 8)] [] (c_X8_become t _ (by omega) _ _) m_X8_become q42_22 (xo_Sheet (by omega)) rfl (by decide) (Nat.le_of_ble_eq_true rfl) dX11_film_30 rfl (k_U ?_)
      refine x_iconst (pc := 33) (v := (nI 0)) C dX11_film_33 (by decide) ?_
      refine x_istore_n (pc := 34) (L' := [(3, .int (nI 0)), (0, .ref (t.1 0)), (1, .int (nI s)), (2, .int (nI d))]) C dX11_film_34 (by decide) rfl ?_
      have loop35 : ∀ (k f : Nat) (y : Int32) (My : MM) , f + k = 8 → y = nI f → RC (film1 σ s d f) My → XV κ (xP (wC t) My) 35 [(3, .int y), (0, .ref (t.1 0)), (1, .int (nI s)), (2, .int (nI d))] [] := by
        intro k
        induction k with
          | zero =>
            intro f y My  hcnt ey eMy
            subst ey
            obtain rfl : 8 = f := by omega
            refine x_iload_n (pc := 35) C 0 dX11_film_35 rfl ?_
            refine x_bipush (pc := 36) (v := (nI 8)) C dX11_film_36 (by decide) ?_
            refine x_icmp_ge_t (pc := 38) C 71 dX11_film_38 (by decide) (nI_le (by omega) (by omega)) ?_
            refine x_bipush (pc := 71) (v := 8) C dX11_film_71 rfl ?_
            exact x_iret (pc := 73) C X dX11_film_73 (fin (by
                  unfold o_film
                  simp only [hos, hod]
                  repeat (first | with_reducible rfl | (refine (if_pos ?_).trans ?_; ((try simp only [inB_t, inB_f, i_lt, i_le, i_eq, ne_eq, Bool.not_eq_true, Bool.not_eq_false, hpB, decide_eq_true_eq, decide_eq_false_iff_not, li_0, li_1, li_2, li_3, li_4, li_5, li_6, li_7, li_8, li_9, li_10, li_20, li_40, li_99, li_100, li_255, li_899, li_999, li_m1, li_m2, li_m3, li_m4, li_m11, li_m12, li_m13, li_m14, li_m100] at h4 hts h15 htd ⊢) <;> omega)) | (refine (if_neg ?_).trans ?_; ((try simp only [inB_t, inB_f, i_lt, i_le, i_eq, ne_eq, Bool.not_eq_true, Bool.not_eq_false, hpB, decide_eq_true_eq, decide_eq_false_iff_not, li_0, li_1, li_2, li_3, li_4, li_5, li_6, li_7, li_8, li_9, li_10, li_20, li_40, li_99, li_100, li_255, li_899, li_999, li_m1, li_m2, li_m3, li_m4, li_m11, li_m12, li_m13, li_m14, li_m100] at h4 hts h15 htd ⊢) <;> omega)) | fail)
                  all_goals (first | with_reducible rfl | (exfalso; ((try simp only [inB_t, inB_f, i_lt, i_le, i_eq, ne_eq, Bool.not_eq_true, Bool.not_eq_false, hpB, decide_eq_true_eq, decide_eq_false_iff_not, li_0, li_1, li_2, li_3, li_4, li_5, li_6, li_7, li_8, li_9, li_10, li_20, li_40, li_99, li_100, li_255, li_899, li_999, li_m1, li_m2, li_m3, li_m4, li_m11, li_m12, li_m13, li_m14, li_m100] at h4 hts h15 htd ⊢) <;> omega)))) eMy)
          | succ k ih =>
            intro f y My  hcnt ey eMy
            subst ey
            have hi35 : f < 8 := by omega
            refine x_iload_n (pc := 35) C 0 dX11_film_35 rfl ?_
            refine x_bipush (pc := 36) (v := (nI 8)) C dX11_film_36 (by decide) ?_
            refine x_icmp_ge_f (pc := 38) C 71 dX11_film_38 (by decide) (nI_ge (by omega) (by omega)) ?_
            refine x_aload_n (pc := 41) C 1 dX11_film_41 rfl ?_
            refine g_main_sheets (pc := 42) C E q1_17 dX11_film_42 ?_
            refine x_iload_n (pc := 45) C 2 dX11_film_45 rfl ?_
            refine l_sheets (pc := 46) C E (by omega) dX11_film_46 ?_
            refine x_iload_n (pc := 47) C 0 dX11_film_47 rfl ?_
            refine x_aload_n (pc := 48) C 1 dX11_film_48 rfl ?_
            refine g_main_now (pc := 49) C E q2_1 dX11_film_49 ?_
            refine g_World_disks (pc := 52) C E (i := 0) (by omega) q12_15 dX11_film_52 ?_
            refine x_iload_n (pc := 55) C 3 dX11_film_55 rfl ?_
            refine l_disks (pc := 56) C E (i := 0) (by omega) (by omega) dX11_film_56 ?_
            refine g_Disk_contents (pc := 57) C E (by omega) q25_13 dX11_film_57 ?_
            refine x_iload_n (pc := 60) C 0 dX11_film_60 rfl ?_
            refine l_ct (pc := 61) C E (by omega) (by omega) dX11_film_61 ?_
            refine x_eq (show My (63 + 3 * (6 * 0 + d)) f = vC (sV σ) d f from film1_c eMy hd (by omega)) ?_
            refine x_callV (pc := 62) C E [.int (nI f), .int (vC (sV σ) d f)] [] (c_X8_put t _ (by omega) (by omega) _) m_X8_put q43_7 (xo_Sheet (by omega)) rfl (by decide) (Nat.le_of_ble_eq_true rfl) dX11_film_62 rfl (k_U ?_)
            refine x_iinc (pc := 65) (v := nI (f + 1)) (L' := [(3, .int (nI (f + 1))), (0, .ref (t.1 0)), (1, .int (nI s)), (2, .int (nI d))]) C 0 dX11_film_65 rfl (nI_1 _) (by decide) rfl ?_
            refine x_goto (pc := 68) C 35 dX11_film_68 (by decide) ?_
            refine x_sub [0, 1, 2, 3] rfl ?_
            exact ih (f + 1) _ _ (by omega) rfl (film1_p eMy hs hi35)
      refine x_sub [0, 1, 2, 3] rfl ?_
      exact loop35 8 0 _ _ (by omega) rfl (rc_shB t h hs (by decide) (by decide))
    · refine x_bipush (pc := 18) (v := (-2)) C dX11_film_18 rfl ?_
      exact x_iret (pc := 20) C X dX11_film_20 (fin (by
            unfold o_film
            simp only [hos]
            repeat (first | with_reducible rfl | (refine (if_pos ?_).trans ?_; ((try simp only [inB_t, inB_f, i_lt, i_le, i_eq, ne_eq, Bool.not_eq_true, Bool.not_eq_false, hpB, decide_eq_true_eq, decide_eq_false_iff_not, li_0, li_1, li_2, li_3, li_4, li_5, li_6, li_7, li_8, li_9, li_10, li_20, li_40, li_99, li_100, li_255, li_899, li_999, li_m1, li_m2, li_m3, li_m4, li_m11, li_m12, li_m13, li_m14, li_m100] at h4 hts h15 ⊢) <;> omega)) | (refine (if_neg ?_).trans ?_; ((try simp only [inB_t, inB_f, i_lt, i_le, i_eq, ne_eq, Bool.not_eq_true, Bool.not_eq_false, hpB, decide_eq_true_eq, decide_eq_false_iff_not, li_0, li_1, li_2, li_3, li_4, li_5, li_6, li_7, li_8, li_9, li_10, li_20, li_40, li_99, li_100, li_255, li_899, li_999, li_m1, li_m2, li_m3, li_m4, li_m11, li_m12, li_m13, li_m14, li_m100] at h4 hts h15 ⊢) <;> omega)) | fail)
            all_goals (first | with_reducible rfl | (exfalso; ((try simp only [inB_t, inB_f, i_lt, i_le, i_eq, ne_eq, Bool.not_eq_true, Bool.not_eq_false, hpB, decide_eq_true_eq, decide_eq_false_iff_not, li_0, li_1, li_2, li_3, li_4, li_5, li_6, li_7, li_8, li_9, li_10, li_20, li_40, li_99, li_100, li_255, li_899, li_999, li_m1, li_m2, li_m3, li_m4, li_m11, li_m12, li_m13, li_m14, li_m100] at h4 hts h15 ⊢) <;> omega)))) h)

/-- the bits without one -/
def wo (x : Int32) (d : Nat) : Int32 := x &&& (((1 : Int32) <<< (nI d &&& 31)) ^^^ (-1))
def lgF (σ : SV) (d : Nat) : Nat → Int32
  | 0 => -1
  | k + 1 => if vRd (sV σ) d && decide (vOr (sV σ) (bt (wo (sRs σ) d)) = vOr (sV σ) (bt (sRs σ))) then nI d else lgF σ (d + 1) k
def a_letGo (σ : SV) : Int32 := lgF σ 0 (vN (sV σ))
def wsX (σ : SV) (d : Nat) : Int32 := sWs σ (bt (vOr (sV σ) (bt (wo (sRs σ) d)))) 8
def wsF (σ : SV) : Nat → Int32 × Int32
  | 0 => (-1, -1)
  | d + 1 => if vRd (sV σ) d && (decide ((wsF σ d).1 = -1) || decide (wsX σ d < (wsF σ d).2)) then (nI d, wsX σ d) else wsF σ d
def a_worst (σ : SV) (w : Int32) : Int32 := if inB w 2 = false then -2 else if w = 0 then (wsF σ (vN (sV σ))).1 else (wsF σ (vN (sV σ))).2
theorem bt_rs {σ : SV} {d : Nat} (hd : d < vN (sV σ)) (h6 : vN (sV σ) ≤ 6) : b2i (bt (sRs σ) d) = b2i (vRd (sV σ) d) := by
  unfold sRs
  rw [bt_mk _ _ (by omega) d (by omega), decide_eq_true hd]
  rfl
set_option maxRecDepth 100000 in
set_option maxHeartbeats 800000 in
theorem c_X11_letGo (t : CT) {σ : SV} {M : MM} (h : RC σ M) : XMet (wC t) yX11_letGo cX11_letGo 4 (some .int) 6 [.ref (t.1 0)] M (aR σ (a_letGo σ)) := by
  refine x_met RX11 (by decide) rfl (Nat.le_of_ble_eq_true rfl) (fun κ C X E => ?_)
  refine x_L (L' := [(0, .ref (t.1 0))]) rfl ?_
  have hn6 := rc_n6 h
  have hq6 := rc_q6 h
  have hq := rc_q h
  have hN6 := h.1.1
  have hB := h.1.2.1
  refine x_aload_n (pc := 0) C 0 dX11_letGo_0 rfl ?_
  refine g_main_now (pc := 1) C E q2_1 dX11_letGo_1 ?_
  refine x_callV (pc := 4) C E [] [] (w_readers t (by decide : 0 < 3) h.2.1 ) m_X10_readers q33_22 (xo_World (i := 0) (by omega)) rfl (by decide) (Nat.le_of_ble_eq_true rfl) dX11_letGo_4 rfl (k_I ?_)
  refine x_eq (show mk (vRd (sV σ)) (vN (sV σ)) = sRs σ from rfl) ?_
  refine x_istore_n (pc := 7) (L' := [(1, .int (sRs σ)), (0, .ref (t.1 0))]) C dX11_letGo_7 (by decide) rfl ?_
  refine x_aload_n (pc := 8) C 1 dX11_letGo_8 rfl ?_
  refine g_main_now (pc := 9) C E q2_1 dX11_letGo_9 ?_
  refine x_iload_n (pc := 12) C 0 dX11_letGo_12 rfl ?_
  refine x_callV (pc := 13) C E [.int (sRs σ)] [] (w_filesOn t (by decide : 0 < 3) h.2.1 _) m_X10_filesOn q33_23 (xo_World (i := 0) (by omega)) rfl (by decide) (Nat.le_of_ble_eq_true rfl) dX11_letGo_13 rfl (k_I ?_)
  refine x_istore_n (pc := 16) (L' := [(2, .int (vOr (sV σ) (bt (sRs σ)))), (1, .int (sRs σ)), (0, .ref (t.1 0))]) C dX11_letGo_16 (by decide) rfl ?_
  refine x_iconst (pc := 17) (v := (nI 0)) C dX11_letGo_17 (by decide) ?_
  refine x_istore_n (pc := 18) (L' := [(3, .int (nI 0)), (2, .int (vOr (sV σ) (bt (sRs σ)))), (1, .int (sRs σ)), (0, .ref (t.1 0))]) C dX11_letGo_18 (by decide) rfl ?_
  have loop19 : ∀ (k i : Nat) (y : Int32) , i + k = vN (sV σ) → y = nI i → lgF σ i k = a_letGo σ → XV κ (xP (wC t) M) 19 [(3, .int y), (2, .int (vOr (sV σ) (bt (sRs σ)))), (1, .int (sRs σ)), (0, .ref (t.1 0))] [] := by
    intro k
    induction k with
      | zero =>
        intro i y  hcnt ey hg
        subst ey
        obtain rfl : vN (sV σ) = i := by omega
        refine x_iload_n (pc := 19) C 0 dX11_letGo_19 rfl ?_
        refine x_aload_n (pc := 20) C 3 dX11_letGo_20 rfl ?_
        refine g_main_now (pc := 21) C E q2_1 dX11_letGo_21 ?_
        refine g_World_size (pc := 24) C E (i := 0) (by omega) q19_2 dX11_letGo_24 ?_
        refine x_eq (show M (7 + 0) 2 = nI (vN (sV σ)) from rc_size h) ?_
        refine x_icmp_ge_t (pc := 27) C 62 dX11_letGo_27 (by decide) (nI_le (by omega) (by omega)) ?_
        refine x_iconst (pc := 62) (v := (-1)) C dX11_letGo_62 rfl ?_
        exact x_iret (pc := 63) C X dX11_letGo_63 (fia hg.symm h)
      | succ k ih =>
        intro i y  hcnt ey hg
        subst ey
        have hi19 : i < vN (sV σ) := by omega
        refine x_iload_n (pc := 19) C 0 dX11_letGo_19 rfl ?_
        refine x_aload_n (pc := 20) C 3 dX11_letGo_20 rfl ?_
        refine g_main_now (pc := 21) C E q2_1 dX11_letGo_21 ?_
        refine g_World_size (pc := 24) C E (i := 0) (by omega) q19_2 dX11_letGo_24 ?_
        refine x_eq (show M (7 + 0) 2 = nI (vN (sV σ)) from rc_size h) ?_
        refine x_icmp_ge_f (pc := 27) C 62 dX11_letGo_27 (by decide) (nI_ge (by omega) (by omega)) ?_
        refine x_iload_n (pc := 30) C 2 dX11_letGo_30 rfl ?_
        refine x_iload_n (pc := 31) C 0 dX11_letGo_31 rfl ?_
        refine x_callS (pc := 32) C E [.int (sRs σ), .int (nI i)] [] (c_X11_isIn t _ _ (by omega)) m_X11_isIn q34_4 rfl (by decide) (Nat.le_of_ble_eq_true rfl) dX11_letGo_32 rfl (k_I ?_)
        refine x_eq (show b2i (bt (sRs σ) i) = b2i (vRd (sV σ) i) from bt_rs hi19 hn6) ?_
        refine x_ifb_eq (pc := 35) C 56 dX11_letGo_35 (by decide) (fun h35 => ?_) (fun h35 => ?_)
        · refine x_iinc (pc := 56) (v := nI (i + 1)) (L' := [(3, .int (nI (i + 1))), (2, .int (vOr (sV σ) (bt (sRs σ)))), (1, .int (sRs σ)), (0, .ref (t.1 0))]) C 0 dX11_letGo_56 rfl (nI_1 _) (by decide) rfl ?_
          refine x_goto (pc := 59) C 19 dX11_letGo_59 (by decide) ?_
          refine x_sub [0, 1, 2, 3] rfl ?_
          exact ih (i + 1) _ (by omega) rfl (by rw [← hg, lgF, if_neg (by simp [h35])])
        · refine x_aload_n (pc := 38) C 3 dX11_letGo_38 rfl ?_
          refine g_main_now (pc := 39) C E q2_1 dX11_letGo_39 ?_
          refine x_iload_n (pc := 42) C 2 dX11_letGo_42 rfl ?_
          refine x_iload_n (pc := 43) C 0 dX11_letGo_43 rfl ?_
          refine x_callS (pc := 44) C E [.int (sRs σ), .int (nI i)] [.ref (t.1 (7 + 0))] (c_X11_without t _ _ _) m_X11_without q38_8 rfl (by decide) (Nat.le_of_ble_eq_true rfl) dX11_letGo_44 rfl (k_I ?_)
          refine x_callV (pc := 47) C E [.int (wo (sRs σ) i)] [] (w_filesOn t (by decide : 0 < 3) h.2.1 _) m_X10_filesOn q33_23 (xo_World (i := 0) (by omega)) rfl (by decide) (Nat.le_of_ble_eq_true rfl) dX11_letGo_47 rfl (k_I ?_)
          refine x_iload_n (pc := 50) C 1 dX11_letGo_50 rfl ?_
          refine x_icmp_ne (pc := 51) C 56 dX11_letGo_51 (by decide) (fun h51 => ?_) (fun h51 => ?_)
          · refine x_iinc (pc := 56) (v := nI (i + 1)) (L' := [(3, .int (nI (i + 1))), (2, .int (vOr (sV σ) (bt (sRs σ)))), (1, .int (sRs σ)), (0, .ref (t.1 0))]) C 0 dX11_letGo_56 rfl (nI_1 _) (by decide) rfl ?_
            refine x_goto (pc := 59) C 19 dX11_letGo_59 (by decide) ?_
            refine x_sub [0, 1, 2, 3] rfl ?_
            exact ih (i + 1) _ (by omega) rfl (by rw [← hg, lgF, if_neg (by simp [h35, h51])])
          · refine x_iload_n (pc := 54) C 0 dX11_letGo_54 rfl ?_
            exact x_iret (pc := 55) C X dX11_letGo_55 (fia (hg.symm.trans (by rw [lgF, if_pos (by simp [h35, h51])])) h)
  refine x_sub [0, 1, 2, 3] rfl ?_
  exact loop19 _ 0 _ (by omega) rfl rfl

set_option maxRecDepth 100000 in
set_option maxHeartbeats 800000 in
theorem c_X11_worst (t : CT) {σ : SV} {M : MM} (h : RC σ M)(x1 : Int32) : XMet (wC t) yX11_worst cX11_worst 7 (some .int) 7 [.ref (t.1 0), .int x1] M (aR σ (a_worst σ x1)) := by
  refine x_met RX11 (by decide) rfl (Nat.le_of_ble_eq_true rfl) (fun κ C X E => ?_)
  refine x_L (L' := [(0, .ref (t.1 0)), (1, .int x1)]) rfl ?_
  have hn6 := rc_n6 h
  have hq6 := rc_q6 h
  have hq := rc_q h
  have hN6 := h.1.1
  have hB := h.1.2.1
  refine x_iload_n (pc := 0) C 1 dX11_worst_0 rfl ?_
  refine x_if_lt (pc := 1) C 9 dX11_worst_1 (by decide) (fun h1 => ?_) (fun h1 => ?_)
  · refine x_bipush (pc := 9) (v := (-2)) C dX11_worst_9 rfl ?_
    exact x_iret (pc := 11) C X dX11_worst_11 (fia (by
          unfold a_worst
          repeat (first | with_reducible rfl | (refine (if_pos ?_).trans ?_; ((try simp only [inB_t, inB_f, i_lt, i_le, i_eq, ne_eq, Bool.not_eq_true, Bool.not_eq_false, hpB, decide_eq_true_eq, decide_eq_false_iff_not, li_0, li_1, li_2, li_3, li_4, li_5, li_6, li_7, li_8, li_9, li_10, li_20, li_40, li_99, li_100, li_255, li_899, li_999, li_m1, li_m2, li_m3, li_m4, li_m11, li_m12, li_m13, li_m14, li_m100] at h1 ⊢) <;> omega)) | (refine (if_neg ?_).trans ?_; ((try simp only [inB_t, inB_f, i_lt, i_le, i_eq, ne_eq, Bool.not_eq_true, Bool.not_eq_false, hpB, decide_eq_true_eq, decide_eq_false_iff_not, li_0, li_1, li_2, li_3, li_4, li_5, li_6, li_7, li_8, li_9, li_10, li_20, li_40, li_99, li_100, li_255, li_899, li_999, li_m1, li_m2, li_m3, li_m4, li_m11, li_m12, li_m13, li_m14, li_m100] at h1 ⊢) <;> omega)) | fail)
          all_goals (first | with_reducible rfl | (exfalso; ((try simp only [inB_t, inB_f, i_lt, i_le, i_eq, ne_eq, Bool.not_eq_true, Bool.not_eq_false, hpB, decide_eq_true_eq, decide_eq_false_iff_not, li_0, li_1, li_2, li_3, li_4, li_5, li_6, li_7, li_8, li_9, li_10, li_20, li_40, li_99, li_100, li_255, li_899, li_999, li_m1, li_m2, li_m3, li_m4, li_m11, li_m12, li_m13, li_m14, li_m100] at h1 ⊢) <;> omega)))) h)
  · refine x_iload_n (pc := 4) C 1 dX11_worst_4 rfl ?_
    refine x_iconst (pc := 5) (v := 1) C dX11_worst_5 rfl ?_
    refine x_icmp_le (pc := 6) C 12 dX11_worst_6 (by decide) (fun h6 => ?_) (fun h6 => ?_)
    · refine x_aload_n (pc := 12) C 0 dX11_worst_12 rfl ?_
      refine g_main_now (pc := 13) C E q2_1 dX11_worst_13 ?_
      refine x_callV (pc := 16) C E [] [] (w_readers t (by decide : 0 < 3) h.2.1 ) m_X10_readers q33_22 (xo_World (i := 0) (by omega)) rfl (by decide) (Nat.le_of_ble_eq_true rfl) dX11_worst_16 rfl (k_I ?_)
      refine x_eq (show mk (vRd (sV σ)) (vN (sV σ)) = sRs σ from rfl) ?_
      refine x_istore_n (pc := 19) (L' := [(2, .int (sRs σ)), (0, .ref (t.1 0)), (1, .int x1)]) C dX11_worst_19 (by decide) rfl ?_
      refine x_iconst (pc := 20) (v := (-1)) C dX11_worst_20 rfl ?_
      refine x_istore_n (pc := 21) (L' := [(3, .int (-1)), (2, .int (sRs σ)), (0, .ref (t.1 0)), (1, .int x1)]) C dX11_worst_21 (by decide) rfl ?_
      refine x_iconst (pc := 22) (v := (-1)) C dX11_worst_22 rfl ?_
      refine x_istore (pc := 23) (L' := [(4, .int (-1)), (3, .int (-1)), (2, .int (sRs σ)), (0, .ref (t.1 0)), (1, .int x1)]) C dX11_worst_23 (by decide) rfl ?_
      refine x_iconst (pc := 25) (v := (nI 0)) C dX11_worst_25 (by decide) ?_
      refine x_istore (pc := 26) (L' := [(5, .int (nI 0)), (4, .int (-1)), (3, .int (-1)), (2, .int (sRs σ)), (0, .ref (t.1 0)), (1, .int x1)]) C dX11_worst_26 (by decide) rfl ?_
      have loop28 : ∀ (k i : Nat) (a : Int32) (b : Int32) (y : Int32) (Mx : MM) , i + k = vN (sV σ) → a = (wsF σ i).1 → b = (wsF σ i).2 → y = nI i → RC σ Mx → XV κ (xP (wC t) Mx) 28 [(5, .int y), (4, .int b), (3, .int a), (2, .int (sRs σ)), (0, .ref (t.1 0)), (1, .int x1)] [] := by
        intro k
        induction k with
          | zero =>
            intro i a b y Mx  hcnt ea eb ey eMx
            subst ea
            subst eb
            subst ey
            obtain rfl : vN (sV σ) = i := by omega
            refine x_iload (pc := 28) C 0 dX11_worst_28 rfl ?_
            refine x_aload_n (pc := 30) C 4 dX11_worst_30 rfl ?_
            refine g_main_now (pc := 31) C E q2_1 dX11_worst_31 ?_
            refine g_World_size (pc := 34) C E (i := 0) (by omega) q19_2 dX11_worst_34 ?_
            refine x_eq (show Mx (7 + 0) 2 = nI (vN (sV σ)) from rc_size eMx) ?_
            refine x_icmp_ge_t (pc := 37) C 93 dX11_worst_37 (by decide) (nI_le (by omega) (by omega)) ?_
            refine x_iload_n (pc := 93) C 5 dX11_worst_93 rfl ?_
            refine x_if_ne (pc := 94) C 101 dX11_worst_94 (by decide) (fun h94 => ?_) (fun h94 => ?_)
            · refine x_iload (pc := 101) C 1 dX11_worst_101 rfl ?_
              exact x_iret (pc := 103) C X dX11_worst_103 (fia (by
                    unfold a_worst
                    repeat (first | with_reducible rfl | (refine (if_pos ?_).trans ?_; ((try simp only [inB_t, inB_f, i_lt, i_le, i_eq, ne_eq, Bool.not_eq_true, Bool.not_eq_false, hpB, decide_eq_true_eq, decide_eq_false_iff_not, li_0, li_1, li_2, li_3, li_4, li_5, li_6, li_7, li_8, li_9, li_10, li_20, li_40, li_99, li_100, li_255, li_899, li_999, li_m1, li_m2, li_m3, li_m4, li_m11, li_m12, li_m13, li_m14, li_m100] at h1 h6 h94 ⊢) <;> omega)) | (refine (if_neg ?_).trans ?_; ((try simp only [inB_t, inB_f, i_lt, i_le, i_eq, ne_eq, Bool.not_eq_true, Bool.not_eq_false, hpB, decide_eq_true_eq, decide_eq_false_iff_not, li_0, li_1, li_2, li_3, li_4, li_5, li_6, li_7, li_8, li_9, li_10, li_20, li_40, li_99, li_100, li_255, li_899, li_999, li_m1, li_m2, li_m3, li_m4, li_m11, li_m12, li_m13, li_m14, li_m100] at h1 h6 h94 ⊢) <;> omega)) | fail)
                    all_goals (first | with_reducible rfl | (exfalso; ((try simp only [inB_t, inB_f, i_lt, i_le, i_eq, ne_eq, Bool.not_eq_true, Bool.not_eq_false, hpB, decide_eq_true_eq, decide_eq_false_iff_not, li_0, li_1, li_2, li_3, li_4, li_5, li_6, li_7, li_8, li_9, li_10, li_20, li_40, li_99, li_100, li_255, li_899, li_999, li_m1, li_m2, li_m3, li_m4, li_m11, li_m12, li_m13, li_m14, li_m100] at h1 h6 h94 ⊢) <;> omega)))) eMx)
            · refine x_iload_n (pc := 97) C 2 dX11_worst_97 rfl ?_
              refine x_goto (pc := 98) C 103 dX11_worst_98 (by decide) ?_
              exact x_iret (pc := 103) C X dX11_worst_103 (fia (by
                    unfold a_worst
                    repeat (first | with_reducible rfl | (refine (if_pos ?_).trans ?_; ((try simp only [inB_t, inB_f, i_lt, i_le, i_eq, ne_eq, Bool.not_eq_true, Bool.not_eq_false, hpB, decide_eq_true_eq, decide_eq_false_iff_not, li_0, li_1, li_2, li_3, li_4, li_5, li_6, li_7, li_8, li_9, li_10, li_20, li_40, li_99, li_100, li_255, li_899, li_999, li_m1, li_m2, li_m3, li_m4, li_m11, li_m12, li_m13, li_m14, li_m100] at h1 h6 h94 ⊢) <;> omega)) | (refine (if_neg ?_).trans ?_; ((try simp only [inB_t, inB_f, i_lt, i_le, i_eq, ne_eq, Bool.not_eq_true, Bool.not_eq_false, hpB, decide_eq_true_eq, decide_eq_false_iff_not, li_0, li_1, li_2, li_3, li_4, li_5, li_6, li_7, li_8, li_9, li_10, li_20, li_40, li_99, li_100, li_255, li_899, li_999, li_m1, li_m2, li_m3, li_m4, li_m11, li_m12, li_m13, li_m14, li_m100] at h1 h6 h94 ⊢) <;> omega)) | fail)
                    all_goals (first | with_reducible rfl | (exfalso; ((try simp only [inB_t, inB_f, i_lt, i_le, i_eq, ne_eq, Bool.not_eq_true, Bool.not_eq_false, hpB, decide_eq_true_eq, decide_eq_false_iff_not, li_0, li_1, li_2, li_3, li_4, li_5, li_6, li_7, li_8, li_9, li_10, li_20, li_40, li_99, li_100, li_255, li_899, li_999, li_m1, li_m2, li_m3, li_m4, li_m11, li_m12, li_m13, li_m14, li_m100] at h1 h6 h94 ⊢) <;> omega)))) eMx)
          | succ k ih =>
            intro i a b y Mx  hcnt ea eb ey eMx
            subst ea
            subst eb
            subst ey
            have hi28 : i < vN (sV σ) := by omega
            refine x_iload (pc := 28) C 0 dX11_worst_28 rfl ?_
            refine x_aload_n (pc := 30) C 4 dX11_worst_30 rfl ?_
            refine g_main_now (pc := 31) C E q2_1 dX11_worst_31 ?_
            refine g_World_size (pc := 34) C E (i := 0) (by omega) q19_2 dX11_worst_34 ?_
            refine x_eq (show Mx (7 + 0) 2 = nI (vN (sV σ)) from rc_size eMx) ?_
            refine x_icmp_ge_f (pc := 37) C 93 dX11_worst_37 (by decide) (nI_ge (by omega) (by omega)) ?_
            refine x_iload_n (pc := 40) C 3 dX11_worst_40 rfl ?_
            refine x_iload (pc := 41) C 0 dX11_worst_41 rfl ?_
            refine x_callS (pc := 43) C E [.int (sRs σ), .int (nI i)] [] (c_X11_isIn t _ _ (by omega)) m_X11_isIn q34_4 rfl (by decide) (Nat.le_of_ble_eq_true rfl) dX11_worst_43 rfl (k_I ?_)
            refine x_eq (show b2i (bt (sRs σ) i) = b2i (vRd (sV σ) i) from bt_rs hi28 hn6) ?_
            refine x_ifb_eq (pc := 46) C 87 dX11_worst_46 (by decide) (fun h46 => ?_) (fun h46 => ?_)
            · refine x_iinc (pc := 87) (v := nI (i + 1)) (L' := [(5, .int (nI (i + 1))), (4, .int ((wsF σ i).2)), (3, .int ((wsF σ i).1)), (2, .int (sRs σ)), (0, .ref (t.1 0)), (1, .int x1)]) C 0 dX11_worst_87 rfl (nI_1 _) (by decide) rfl ?_
              refine x_goto (pc := 90) C 28 dX11_worst_90 (by decide) ?_
              refine x_sub [0, 1, 2, 3, 4, 5] rfl ?_
              exact ih (i + 1) _ _ _ _ (by omega) (by rw [wsF]; simp [h46]) (by rw [wsF]; simp [h46]) rfl (by assumption)
            · refine x_aload_n (pc := 49) C 4 dX11_worst_49 rfl ?_
              refine x_aload_n (pc := 50) C 4 dX11_worst_50 rfl ?_
              refine g_main_now (pc := 51) C E q2_1 dX11_worst_51 ?_
              refine x_iload_n (pc := 54) C 3 dX11_worst_54 rfl ?_
              refine x_iload (pc := 55) C 0 dX11_worst_55 rfl ?_
              refine x_callS (pc := 57) C E [.int (sRs σ), .int (nI i)] [.ref (t.1 (7 + 0)), .ref (t.1 0)] (c_X11_without t _ _ _) m_X11_without q38_8 rfl (by decide) (Nat.le_of_ble_eq_true rfl) dX11_worst_57 rfl (k_I ?_)
              refine x_callV (pc := 60) C E [.int (wo (sRs σ) i)] [.ref (t.1 0)] (w_filesOn t (by decide : 0 < 3) eMx.2.1 _) m_X10_filesOn q33_23 (xo_World (i := 0) (by omega)) rfl (by decide) (Nat.le_of_ble_eq_true rfl) dX11_worst_60 rfl (k_I ?_)
              refine x_callV (pc := 63) C E [.int (vOr (sV σ) (bt (wo (sRs σ) i)))] [] (c_X11_worthOf t eMx _) m_X11_worthOf q34_0 xo_main rfl (by decide) (Nat.le_of_ble_eq_true rfl) dX11_worst_63 rfl (fun r M63 hc63 => ?_)
              obtain ⟨rfl, hR63⟩ := hc63
              show XV κ (xP (wC t) M63) 66 _ [.int (sWs σ (bt (vOr (sV σ) (bt (wo (sRs σ) i)))) 8)]
              refine x_eq (show sWs σ (bt (vOr (sV σ) (bt (wo (sRs σ) i)))) 8 = wsX σ i from rfl) ?_
              refine x_istore (pc := 66) (L' := [(6, .int (wsX σ i)), (5, .int (nI i)), (4, .int ((wsF σ i).2)), (3, .int ((wsF σ i).1)), (2, .int (sRs σ)), (0, .ref (t.1 0)), (1, .int x1)]) C dX11_worst_66 (by decide) rfl ?_
              refine x_iload_n (pc := 68) C 3 dX11_worst_68 rfl ?_
              refine x_iconst (pc := 69) (v := (-1)) C dX11_worst_69 rfl ?_
              refine x_icmp_eq (pc := 70) C 80 dX11_worst_70 (by decide) (fun h70 => ?_) (fun h70 => ?_)
              · refine x_iload (pc := 80) C 1 dX11_worst_80 rfl ?_
                refine x_istore_n (pc := 82) (L' := [(3, .int (nI i)), (6, .int (wsX σ i)), (5, .int (nI i)), (4, .int ((wsF σ i).2)), (2, .int (sRs σ)), (0, .ref (t.1 0)), (1, .int x1)]) C dX11_worst_82 (by decide) rfl ?_
                refine x_iload (pc := 83) C 1 dX11_worst_83 rfl ?_
                refine x_istore (pc := 85) (L' := [(4, .int (wsX σ i)), (3, .int (nI i)), (6, .int (wsX σ i)), (5, .int (nI i)), (2, .int (sRs σ)), (0, .ref (t.1 0)), (1, .int x1)]) C dX11_worst_85 (by decide) rfl ?_
                refine x_iinc (pc := 87) (v := nI (i + 1)) (L' := [(5, .int (nI (i + 1))), (4, .int (wsX σ i)), (3, .int (nI i)), (6, .int (wsX σ i)), (2, .int (sRs σ)), (0, .ref (t.1 0)), (1, .int x1)]) C 3 dX11_worst_87 rfl (nI_1 _) (by decide) rfl ?_
                refine x_goto (pc := 90) C 28 dX11_worst_90 (by decide) ?_
                refine x_sub [0, 1, 2, 4, 5, 6] rfl ?_
                exact ih (i + 1) _ _ _ _ (by omega) (by rw [wsF]; simp [h46, h70]) (by rw [wsF]; simp [h46, h70]) rfl (by assumption)
              · refine x_iload (pc := 73) C 0 dX11_worst_73 rfl ?_
                refine x_iload (pc := 75) C 2 dX11_worst_75 rfl ?_
                refine x_icmp_ge (pc := 77) C 87 dX11_worst_77 (by decide) (fun h77 => ?_) (fun h77 => ?_)
                · refine x_iinc (pc := 87) (v := nI (i + 1)) (L' := [(5, .int (nI (i + 1))), (6, .int (wsX σ i)), (4, .int ((wsF σ i).2)), (3, .int ((wsF σ i).1)), (2, .int (sRs σ)), (0, .ref (t.1 0)), (1, .int x1)]) C 1 dX11_worst_87 rfl (nI_1 _) (by decide) rfl ?_
                  refine x_goto (pc := 90) C 28 dX11_worst_90 (by decide) ?_
                  refine x_sub [0, 2, 3, 4, 5, 6] rfl ?_
                  exact ih (i + 1) _ _ _ _ (by omega) (by rw [wsF]; simp [h46, h70, show ¬ wsX σ i < (wsF σ i).2 from (by simp only [i_lt, i_le] at h77 ⊢; omega)]) (by rw [wsF]; simp [h46, h70, show ¬ wsX σ i < (wsF σ i).2 from (by simp only [i_lt, i_le] at h77 ⊢; omega)]) rfl (by assumption)
                · refine x_iload (pc := 80) C 1 dX11_worst_80 rfl ?_
                  refine x_istore_n (pc := 82) (L' := [(3, .int (nI i)), (6, .int (wsX σ i)), (5, .int (nI i)), (4, .int ((wsF σ i).2)), (2, .int (sRs σ)), (0, .ref (t.1 0)), (1, .int x1)]) C dX11_worst_82 (by decide) rfl ?_
                  refine x_iload (pc := 83) C 1 dX11_worst_83 rfl ?_
                  refine x_istore (pc := 85) (L' := [(4, .int (wsX σ i)), (3, .int (nI i)), (6, .int (wsX σ i)), (5, .int (nI i)), (2, .int (sRs σ)), (0, .ref (t.1 0)), (1, .int x1)]) C dX11_worst_85 (by decide) rfl ?_
                  refine x_iinc (pc := 87) (v := nI (i + 1)) (L' := [(5, .int (nI (i + 1))), (4, .int (wsX σ i)), (3, .int (nI i)), (6, .int (wsX σ i)), (2, .int (sRs σ)), (0, .ref (t.1 0)), (1, .int x1)]) C 3 dX11_worst_87 rfl (nI_1 _) (by decide) rfl ?_
                  refine x_goto (pc := 90) C 28 dX11_worst_90 (by decide) ?_
                  refine x_sub [0, 1, 2, 4, 5, 6] rfl ?_
                  exact ih (i + 1) _ _ _ _ (by omega) (by rw [wsF]; simp [h46, h70, show wsX σ i < (wsF σ i).2 from (by simp only [i_lt, i_le] at h77 ⊢; omega)]) (by rw [wsF]; simp [h46, h70, show wsX σ i < (wsF σ i).2 from (by simp only [i_lt, i_le] at h77 ⊢; omega)]) rfl (by assumption)
      refine x_sub [0, 1, 2, 3, 4, 5] rfl ?_
      exact loop28 (vN (sV σ)) 0 _ _ _ _ (by omega) rfl rfl rfl h
    · refine x_bipush (pc := 9) (v := (-2)) C dX11_worst_9 rfl ?_
      exact x_iret (pc := 11) C X dX11_worst_11 (fia (by
            unfold a_worst
            repeat (first | with_reducible rfl | (refine (if_pos ?_).trans ?_; ((try simp only [inB_t, inB_f, i_lt, i_le, i_eq, ne_eq, Bool.not_eq_true, Bool.not_eq_false, hpB, decide_eq_true_eq, decide_eq_false_iff_not, li_0, li_1, li_2, li_3, li_4, li_5, li_6, li_7, li_8, li_9, li_10, li_20, li_40, li_99, li_100, li_255, li_899, li_999, li_m1, li_m2, li_m3, li_m4, li_m11, li_m12, li_m13, li_m14, li_m100] at h1 h6 ⊢) <;> omega)) | (refine (if_neg ?_).trans ?_; ((try simp only [inB_t, inB_f, i_lt, i_le, i_eq, ne_eq, Bool.not_eq_true, Bool.not_eq_false, hpB, decide_eq_true_eq, decide_eq_false_iff_not, li_0, li_1, li_2, li_3, li_4, li_5, li_6, li_7, li_8, li_9, li_10, li_20, li_40, li_99, li_100, li_255, li_899, li_999, li_m1, li_m2, li_m3, li_m4, li_m11, li_m12, li_m13, li_m14, li_m100] at h1 h6 ⊢) <;> omega)) | fail)
            all_goals (first | with_reducible rfl | (exfalso; ((try simp only [inB_t, inB_f, i_lt, i_le, i_eq, ne_eq, Bool.not_eq_true, Bool.not_eq_false, hpB, decide_eq_true_eq, decide_eq_false_iff_not, li_0, li_1, li_2, li_3, li_4, li_5, li_6, li_7, li_8, li_9, li_10, li_20, li_40, li_99, li_100, li_255, li_899, li_999, li_m1, li_m2, li_m3, li_m4, li_m11, li_m12, li_m13, li_m14, li_m100] at h1 h6 ⊢) <;> omega)))) h)

