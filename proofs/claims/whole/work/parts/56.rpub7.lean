theorem shV_s {x : Int32} (h1 : -1 ≤ x.toInt) (h2 : x.toInt ≤ 999) : shV 1 x = x := by
  show x.toInt16.toInt32 = x
  apply Int32.toInt_inj.mp
  rw [Int16.toInt_toInt32, Int32.toInt_toInt16]
  exact Int.bmod_eq_of_le (by omega) (by omega)
theorem o_sheet_18 {σ : SV} {s : Nat} (hs : s < 4) : o_sheet σ (nI s) 1 8 = (setH σ s (1, 8, fun _ => 0), 1) := by
  unfold o_sheet
  rw [inB_nI hs (by decide), oN_nI (by omega), if_neg (by decide), if_neg (by decide), if_neg (by decide), if_neg (by decide)]
  rfl
theorem film1_pr {σ : SV} {M : MM} {s d f : Nat} (h : RR (film1 σ s d f) M) (hs : s < 4) (hf : f < 8) (h1 : -1 ≤ (vC (sV σ) d f).toInt) (h2 : (vC (sV σ) d f).toInt ≤ 999) : RR (film1 σ s d (f + 1)) (mu M 15 (40 * s + f) (vC (sV σ) d f)) := by
  have e := rr_cellr h hs (by rw [(film1_s σ s d f).1]; decide) (i := f) (by rw [(film1_s σ s d f).2]; exact hf) (vC (sV σ) d f)
  rw [(film1_s σ s d f).1, (film1_s σ s d f).2] at e
  show RR (setH (film1 σ s d f) s (1, 8, fun k => if k = f then shV 1 (vC (sV σ) d f) else (sH (film1 σ s d f) s).2.2 k)) _
  rw [shV_s h1 h2]
  exact e
theorem film1_cr {σ : SV} {M : MM} {s d f g : Nat} (h : RR (film1 σ s d f) M) (hd : d < vN (sV σ)) (hg : g < 8) : M 6 (8 * d + g) = vC (sV σ) d g := by
  have e := rr_ct h (d := d) (f := g) (by rw [film1_V]; exact hd) hg
  rw [film1_V] at e
  exact e
def hcU (σ : SV) : Prop := ∀ d f, d < vN (sV σ) → f < 8 → (vC (sV σ) d f).toInt ≤ 999
set_option maxRecDepth 100000 in
set_option maxHeartbeats 800000 in
theorem c_X12_film (t : CT) {σ : SV} {M : MM} (h : RR σ M) (hg : M 0 28 = 0) (x1 x2 : Int32) (hcu : hcU σ)  : XMet (wR t) yX12_film cX12_film 4 (some .int) 4 [.ref (t.1 0), .int x1, .int x2] M (oQ (o_film σ x1 x2)) := by
  refine x_met RX12 (by decide) rfl (Nat.le_of_ble_eq_true rfl) (fun κ C X E => ?_)
  refine x_L (L' := [(0, .ref (t.1 0)), (1, .int x1), (2, .int x2)]) rfl ?_
  have hn6 := rr_n6 h
  have hN6 := h.1.1
  have hq := rr_q h
  have hB := h.1.2.1
  refine x_iload_n (pc := 0) C 1 dX12_film_0 rfl ?_
  refine x_callS (pc := 1) C E [.int x1] [] (c_X12_isSheet t _ _) m_X12_isSheet q40_18 rfl (by decide) (Nat.le_of_ble_eq_true rfl) dX12_film_1 rfl (k_I ?_)
  refine x_ifb_eq (pc := 4) C 15 dX12_film_4 (by decide) (fun h4 => ?_) (fun h4 => ?_)
  · refine x_bipush (pc := 15) (v := (-2)) C dX12_film_15 rfl ?_
    exact x_iret (pc := 17) C X dX12_film_17 (foq (by
          unfold o_film
          repeat (first | with_reducible rfl | (refine (if_pos ?_).trans ?_; ((try simp only [inB_t, inB_f, i_lt, i_le, i_eq, ne_eq, Bool.not_eq_true, Bool.not_eq_false, hpB, decide_eq_true_eq, decide_eq_false_iff_not, li_0, li_1, li_2, li_3, li_4, li_5, li_6, li_7, li_8, li_9, li_10, li_20, li_40, li_99, li_100, li_255, li_899, li_999, li_m1, li_m2, li_m3, li_m4, li_m11, li_m12, li_m13, li_m14, li_m100] at h4 ⊢) <;> omega)) | (refine (if_neg ?_).trans ?_; ((try simp only [inB_t, inB_f, i_lt, i_le, i_eq, ne_eq, Bool.not_eq_true, Bool.not_eq_false, hpB, decide_eq_true_eq, decide_eq_false_iff_not, li_0, li_1, li_2, li_3, li_4, li_5, li_6, li_7, li_8, li_9, li_10, li_20, li_40, li_99, li_100, li_255, li_899, li_999, li_m1, li_m2, li_m3, li_m4, li_m11, li_m12, li_m13, li_m14, li_m100] at h4 ⊢) <;> omega)) | fail)
          all_goals (first | with_reducible rfl | (exfalso; ((try simp only [inB_t, inB_f, i_lt, i_le, i_eq, ne_eq, Bool.not_eq_true, Bool.not_eq_false, hpB, decide_eq_true_eq, decide_eq_false_iff_not, li_0, li_1, li_2, li_3, li_4, li_5, li_6, li_7, li_8, li_9, li_10, li_20, li_40, li_99, li_100, li_255, li_899, li_999, li_m1, li_m2, li_m3, li_m4, li_m11, li_m12, li_m13, li_m14, li_m100] at h4 ⊢) <;> omega)))) h hg)
  · obtain ⟨s, hs, es⟩ := inB_of h4 (by omega)
    have hts := nI_toInt (n := s) (by omega)
    have hos := oN_nI (n := s) (by omega)
    subst es
    refine x_aload_n (pc := 7) C 0 dX12_film_7 rfl ?_
    refine x_iload_n (pc := 8) C 2 dX12_film_8 rfl ?_
    refine x_callV (pc := 9) C E [.int x2] [] ( c_X12_isDisk t h _) m_X12_isDisk q13_9 xo_M rfl (by decide) (Nat.le_of_ble_eq_true rfl) dX12_film_9 rfl (k_I ?_)
    refine x_ifb_ne (pc := 12) C 18 dX12_film_12 (by decide) (fun h12 => ?_) (fun h12 => ?_)
    · obtain ⟨d, hd, ed⟩ := inB_of h12 (by omega)
      have htd := nI_toInt (n := d) (by omega)
      have hod := oN_nI (n := d) (by omega)
      subst ed
      refine x_aload_n (pc := 18) C 0 dX12_film_18 rfl ?_
      refine x_iload_n (pc := 19) C 1 dX12_film_19 rfl ?_
      refine x_iconst (pc := 20) (v := 1) C dX12_film_20 rfl ?_
      refine x_bipush (pc := 21) (v := 8) C dX12_film_21 rfl ?_
      refine x_callV (pc := 23) C E [.int (nI s), .int 1, .int 8] [] (c_X12_sheet t h hg (nI s) 1 8) m_X12_sheet q43_15 xo_M rfl (by first | decide | omega) (Nat.le_of_ble_eq_true rfl) dX12_film_23 rfl (fun r M23 hc23 => ?_)
      rw [o_sheet_18 hs] at hc23
      obtain ⟨rfl, hR23, hg23⟩ := hc23
      show XV κ (xP (wR t) M23) 26 _ [.int 1]
      refine x_pop (pc := 26) C dX12_film_26 rfl ?_
      refine x_iconst (pc := 27) (v := 0) C dX12_film_27 rfl ?_
      refine x_istore_n (pc := 28) (L' := [(3, .int 0), (0, .ref (t.1 0)), (1, .int (nI s)), (2, .int (nI d))]) C dX12_film_28 (by decide) rfl ?_
      have loop29 : ∀ (k f : Nat) (y : Int32) (Mx : MM) , f + k = 8 → y = nI f → (RR (film1 σ s d f) Mx ∧ Mx 0 28 = 0) → XV κ (xP (wR t) Mx) 29 [(3, .int y), (0, .ref (t.1 0)), (1, .int (nI s)), (2, .int (nI d))] [] := by
        intro k
        induction k with
          | zero =>
            intro f y Mx  hcnt ey eMx
            subst ey
            obtain rfl : 8 = f := by omega
            refine x_iload_n (pc := 29) C 0 dX12_film_29 rfl ?_
            refine x_bipush (pc := 30) (v := (nI 8)) C dX12_film_30 (by decide) ?_
            refine x_icmp_ge_t (pc := 32) C 63 dX12_film_32 (by decide) (nI_le (by omega) (by decide)) ?_
            refine x_bipush (pc := 63) (v := 8) C dX12_film_63 rfl ?_
            exact x_iret (pc := 65) C X dX12_film_65 (foq (by
                  unfold o_film
                  simp only [hos, hod]
                  repeat (first | with_reducible rfl | (refine (if_pos ?_).trans ?_; ((try simp only [inB_t, inB_f, i_lt, i_le, i_eq, ne_eq, Bool.not_eq_true, Bool.not_eq_false, hpB, decide_eq_true_eq, decide_eq_false_iff_not, li_0, li_1, li_2, li_3, li_4, li_5, li_6, li_7, li_8, li_9, li_10, li_20, li_40, li_99, li_100, li_255, li_899, li_999, li_m1, li_m2, li_m3, li_m4, li_m11, li_m12, li_m13, li_m14, li_m100] at h4 hts h12 htd ⊢) <;> omega)) | (refine (if_neg ?_).trans ?_; ((try simp only [inB_t, inB_f, i_lt, i_le, i_eq, ne_eq, Bool.not_eq_true, Bool.not_eq_false, hpB, decide_eq_true_eq, decide_eq_false_iff_not, li_0, li_1, li_2, li_3, li_4, li_5, li_6, li_7, li_8, li_9, li_10, li_20, li_40, li_99, li_100, li_255, li_899, li_999, li_m1, li_m2, li_m3, li_m4, li_m11, li_m12, li_m13, li_m14, li_m100] at h4 hts h12 htd ⊢) <;> omega)) | fail)
                  all_goals (first | with_reducible rfl | (exfalso; ((try simp only [inB_t, inB_f, i_lt, i_le, i_eq, ne_eq, Bool.not_eq_true, Bool.not_eq_false, hpB, decide_eq_true_eq, decide_eq_false_iff_not, li_0, li_1, li_2, li_3, li_4, li_5, li_6, li_7, li_8, li_9, li_10, li_20, li_40, li_99, li_100, li_255, li_899, li_999, li_m1, li_m2, li_m3, li_m4, li_m11, li_m12, li_m13, li_m14, li_m100] at h4 hts h12 htd ⊢) <;> omega)))) eMx.1 eMx.2)
          | succ k ih =>
            intro f y Mx  hcnt ey eMx
            subst ey
            have hi29 : f < 8 := by omega
            refine x_iload_n (pc := 29) C 0 dX12_film_29 rfl ?_
            refine x_bipush (pc := 30) (v := (nI 8)) C dX12_film_30 (by decide) ?_
            refine x_icmp_ge_f (pc := 32) C 63 dX12_film_32 (by decide) (nI_ge (by omega) (by decide)) ?_
            refine x_aload_n (pc := 35) C 1 dX12_film_35 rfl ?_
            refine g_M_items (pc := 36) C E q12_4 dX12_film_36 ?_
            refine x_bipush (pc := 39) (v := (nI 40)) C dX12_film_39 (by decide) ?_
            refine x_iload_n (pc := 41) C 2 dX12_film_41 rfl ?_
            refine x_imul (pc := 42) C dX12_film_42 ?_
            refine x_eq (show (nI 40) * (nI s) = nI (40 * s) from pk_mul _ _) ?_
            refine x_iload_n (pc := 43) C 0 dX12_film_43 rfl ?_
            refine x_iadd (pc := 44) C dX12_film_44 ?_
            refine x_eq (show (nI (40 * s)) + (nI f) = nI (40 * s + f) from nI_add _ _) ?_
            refine x_aload_n (pc := 45) C 1 dX12_film_45 rfl ?_
            refine g_M_contents (pc := 46) C E q11_17 dX12_film_46 ?_
            refine x_bipush (pc := 49) (v := (nI 8)) C dX12_film_49 (by decide) ?_
            refine x_iload_n (pc := 51) C 3 dX12_film_51 rfl ?_
            refine x_imul (pc := 52) C dX12_film_52 ?_
            refine x_eq (show (nI 8) * (nI d) = nI (8 * d) from pk_mul _ _) ?_
            refine x_iload_n (pc := 53) C 0 dX12_film_53 rfl ?_
            refine x_iadd (pc := 54) C dX12_film_54 ?_
            refine x_eq (show (nI (8 * d)) + (nI f) = nI (8 * d + f) from nI_add _ _) ?_
            refine l_Rcontents (pc := 55) C E (by omega) dX12_film_55 ?_
            refine x_eq (show Mx 6 (8 * d + f) = vC (sV σ) d f from (film1_cr eMx.1 hd (by omega))) ?_
            refine s_Ritems (pc := 56) C E (by omega) dX12_film_56 ?_
            refine x_iinc (pc := 57) (v := nI (f + 1)) (L' := [(3, .int (nI (f + 1))), (0, .ref (t.1 0)), (1, .int (nI s)), (2, .int (nI d))]) C 0 dX12_film_57 rfl (nI_1 _) (by decide) rfl ?_
            refine x_goto (pc := 60) C 29 dX12_film_60 (by decide) ?_
            refine x_sub [0, 1, 2, 3] rfl ?_
            exact ih (f + 1) _ _ (by omega) rfl ⟨film1_pr eMx.1 hs hi29 (rr_nn h hd hi29) (hcu d f hd hi29), (congrFun (mu_n _ _ _ _ (by decide)) _).trans eMx.2⟩
      refine x_sub [0, 1, 2, 3] rfl ?_
      exact loop29 8 0 _ M23 (by omega) rfl ⟨hR23, hg23⟩
    · refine x_bipush (pc := 15) (v := (-2)) C dX12_film_15 rfl ?_
      exact x_iret (pc := 17) C X dX12_film_17 (foq (by
            unfold o_film
            simp only [hos]
            repeat (first | with_reducible rfl | (refine (if_pos ?_).trans ?_; ((try simp only [inB_t, inB_f, i_lt, i_le, i_eq, ne_eq, Bool.not_eq_true, Bool.not_eq_false, hpB, decide_eq_true_eq, decide_eq_false_iff_not, li_0, li_1, li_2, li_3, li_4, li_5, li_6, li_7, li_8, li_9, li_10, li_20, li_40, li_99, li_100, li_255, li_899, li_999, li_m1, li_m2, li_m3, li_m4, li_m11, li_m12, li_m13, li_m14, li_m100] at h4 hts h12 ⊢) <;> omega)) | (refine (if_neg ?_).trans ?_; ((try simp only [inB_t, inB_f, i_lt, i_le, i_eq, ne_eq, Bool.not_eq_true, Bool.not_eq_false, hpB, decide_eq_true_eq, decide_eq_false_iff_not, li_0, li_1, li_2, li_3, li_4, li_5, li_6, li_7, li_8, li_9, li_10, li_20, li_40, li_99, li_100, li_255, li_899, li_999, li_m1, li_m2, li_m3, li_m4, li_m11, li_m12, li_m13, li_m14, li_m100] at h4 hts h12 ⊢) <;> omega)) | fail)
            all_goals (first | with_reducible rfl | (exfalso; ((try simp only [inB_t, inB_f, i_lt, i_le, i_eq, ne_eq, Bool.not_eq_true, Bool.not_eq_false, hpB, decide_eq_true_eq, decide_eq_false_iff_not, li_0, li_1, li_2, li_3, li_4, li_5, li_6, li_7, li_8, li_9, li_10, li_20, li_40, li_99, li_100, li_255, li_899, li_999, li_m1, li_m2, li_m3, li_m4, li_m11, li_m12, li_m13, li_m14, li_m100] at h4 hts h12 ⊢) <;> omega)))) h hg)

def CyR (s i s2 j n lo hi : Nat) (A B : MM) : Prop := (∀ p, lo ≤ p → p < hi → B 15 (40 * s2 + j + p) = A 15 (40 * s + i + p)) ∧ ∀ a b, (a ≠ 15 ∨ b < 40 * s2 + j + lo ∨ 40 * s2 + j + hi ≤ b) → B a b = A a b
theorem rr_copy {σ : SV} {M B : MM} (h : RR σ M) {s s2 i j n : Nat} (hs : s < 4) (hs2 : s2 < 4) (hss : (sH σ s).1 ≠ -1) (hss2 : (sH σ s2).1 ≠ -1) (hi : i + n ≤ (sH σ s).2.1) (hj : j + n ≤ (sH σ s2).2.1) (e : CyR s i s2 j n 0 n M B) : RR (setH σ s2 ((sH σ s2).1, (sH σ s2).2.1, va_cpy (sH σ s).2.2 (sH σ s2).2.2 i j n)) B := by
  have h40 := h.1.2.2.2.2 s2 hs2
  refine rr_sheet h hs2 ⟨?_, fun _ => ⟨?_, ?_, fun k hk => ?_⟩⟩ h40 (fun a b _ h15 _ => e.2 a b (by omega))
  · rw [e.2 _ _ (by omega)]; exact rr_si h hs2
  · rw [e.2 _ _ (by omega)]; exact rr_so h hs2 hss2
  · rw [e.2 _ _ (by omega)]; exact rr_sz h hs2 hss2
  · have hk' : k < (sH σ s2).2.1 := hk
    show _ = if j ≤ k ∧ k < j + n then (sH σ s).2.2 (i + (k - j)) else (sH σ s2).2.2 k
    by_cases g : j ≤ k ∧ k < j + n
    · rw [if_pos g]
      have := e.1 (k - j) (Nat.zero_le _) (by omega)
      rw [show 40 * s2 + j + (k - j) = 40 * s2 + k by omega, show 40 * s + i + (k - j) = 40 * s + (i + (k - j)) by omega] at this
      rw [this]
      exact rr_it h hs hss (by omega)
    · rw [if_neg g, e.2 _ _ (by omega)]
      exact rr_it h hs2 hss2 hk'
theorem CyR_dn {s i s2 j n k : Nat} {A B : MM} (hd : 40 * s + i + k < 40 * s2 + j ∨ 40 * s2 + j + k ≤ 40 * s + i + k) (e : CyR s i s2 j n 0 k A B) : CyR s i s2 j n 0 (k + 1) A (mu B 15 (40 * s2 + j + k) (B 15 (40 * s + i + k))) := by
  refine ⟨fun p _ hp => ?_, fun a b g => ?_⟩
  · by_cases q : p = k
    · subst q; rw [mu_s]; exact e.2 _ _ (by omega)
    · rw [mu_k _ _ _ _ (by omega)]; exact e.1 p (Nat.zero_le _) (by omega)
  · rw [mu_at, if_neg (by omega)]; exact e.2 a b (by omega)
theorem CyR_up {s i s2 j n k : Nat} {A B : MM} (hk : k < n) (hd : 40 * s + i ≤ 40 * s2 + j ∨ 40 * s2 + j + n ≤ 40 * s + i) (e : CyR s i s2 j n (n - k) n A B) : CyR s i s2 j n (n - (k + 1)) n A (mu B 15 (40 * s2 + j + (n - 1 - k)) (B 15 (40 * s + i + (n - 1 - k)))) := by
  refine ⟨fun p hl hp => ?_, fun a b g => ?_⟩
  · by_cases q : p = n - 1 - k
    · subst q; rw [mu_s]; exact e.2 _ _ (by omega)
    · rw [mu_k _ _ _ _ (by omega)]; exact e.1 p (by omega) (by omega)
  · rw [mu_at, if_neg (by omega)]; exact e.2 a b (by omega)
set_option maxRecDepth 100000 in
set_option maxHeartbeats 800000 in
theorem c_X12_copy (t : CT) {σ : SV} {M : MM} (h : RR σ M) (hg : M 0 28 = 0) (x1 x2 x3 x4 x5 : Int32)  : XMet (wR t) yX12_copy cX12_copy 9 (some .int) 3 [.ref (t.1 0), .int x1, .int x2, .int x3, .int x4, .int x5] M (oQ (o_copy σ x1 x2 x3 x4 x5)) := by
  refine x_met RX12 (by decide) rfl (Nat.le_of_ble_eq_true rfl) (fun κ C X E => ?_)
  refine x_L (L' := [(0, .ref (t.1 0)), (1, .int x1), (2, .int x2), (3, .int x3), (4, .int x4), (5, .int x5)]) rfl ?_
  have hn6 := rr_n6 h
  have hN6 := h.1.1
  have hq := rr_q h
  have hB := h.1.2.1
  refine x_iload_n (pc := 0) C 1 dX12_copy_0 rfl ?_
  refine x_callS (pc := 1) C E [.int x1] [] (c_X12_isSheet t _ _) m_X12_isSheet q40_18 rfl (by decide) (Nat.le_of_ble_eq_true rfl) dX12_copy_1 rfl (k_I ?_)
  refine x_ifb_eq (pc := 4) C 14 dX12_copy_4 (by decide) (fun h4 => ?_) (fun h4 => ?_)
  · refine x_bipush (pc := 14) (v := (-2)) C dX12_copy_14 rfl ?_
    exact x_iret (pc := 16) C X dX12_copy_16 (foq (by
          unfold o_copy
          repeat (first | with_reducible rfl | (refine (if_pos ?_).trans ?_; ((try simp only [inB_t, inB_f, i_lt, i_le, i_eq, ne_eq, Bool.not_eq_true, Bool.not_eq_false, hpB, decide_eq_true_eq, decide_eq_false_iff_not, li_0, li_1, li_2, li_3, li_4, li_5, li_6, li_7, li_8, li_9, li_10, li_20, li_40, li_99, li_100, li_255, li_899, li_999, li_m1, li_m2, li_m3, li_m4, li_m11, li_m12, li_m13, li_m14, li_m100] at h4 ⊢) <;> omega)) | (refine (if_neg ?_).trans ?_; ((try simp only [inB_t, inB_f, i_lt, i_le, i_eq, ne_eq, Bool.not_eq_true, Bool.not_eq_false, hpB, decide_eq_true_eq, decide_eq_false_iff_not, li_0, li_1, li_2, li_3, li_4, li_5, li_6, li_7, li_8, li_9, li_10, li_20, li_40, li_99, li_100, li_255, li_899, li_999, li_m1, li_m2, li_m3, li_m4, li_m11, li_m12, li_m13, li_m14, li_m100] at h4 ⊢) <;> omega)) | fail)
          all_goals (first | with_reducible rfl | (exfalso; ((try simp only [inB_t, inB_f, i_lt, i_le, i_eq, ne_eq, Bool.not_eq_true, Bool.not_eq_false, hpB, decide_eq_true_eq, decide_eq_false_iff_not, li_0, li_1, li_2, li_3, li_4, li_5, li_6, li_7, li_8, li_9, li_10, li_20, li_40, li_99, li_100, li_255, li_899, li_999, li_m1, li_m2, li_m3, li_m4, li_m11, li_m12, li_m13, li_m14, li_m100] at h4 ⊢) <;> omega)))) h hg)
  · obtain ⟨s, hs, es⟩ := inB_of h4 (by omega)
    have hts := nI_toInt (n := s) (by omega)
    have hos := oN_nI (n := s) (by omega)
    subst es
    refine x_iload_n (pc := 7) C 3 dX12_copy_7 rfl ?_
    refine x_callS (pc := 8) C E [.int x3] [] (c_X12_isSheet t _ _) m_X12_isSheet q40_18 rfl (by decide) (Nat.le_of_ble_eq_true rfl) dX12_copy_8 rfl (k_I ?_)
    refine x_ifb_ne (pc := 11) C 17 dX12_copy_11 (by decide) (fun h11 => ?_) (fun h11 => ?_)
    · obtain ⟨s2, hs2, es2⟩ := inB_of h11 (by omega)
      have hts2 := nI_toInt (n := s2) (by omega)
      have hos2 := oN_nI (n := s2) (by omega)
      subst es2
      refine x_aload_n (pc := 17) C 0 dX12_copy_17 rfl ?_
      refine g_M_isThere (pc := 18) C E q12_1 dX12_copy_18 ?_
      refine x_iload_n (pc := 21) C 1 dX12_copy_21 rfl ?_
      refine l_RisThere (pc := 22) C E (by omega) dX12_copy_22 ?_
      refine x_eq (show M 12 s = b2i (!decide ((sH (σ) s).1 = -1)) from (rr_si h (by omega))) ?_
      refine x_ifb_eq (pc := 23) C 35 dX12_copy_23 (by decide) (fun h23 => ?_) (fun h23 => ?_)
      · have hns : (sH σ s).1 = -1 := (by
          by_cases e : (sH σ s).1 = -1
          · exact e
          · rw [decide_eq_false e] at h23; exact absurd h23 (by decide))
        refine x_bipush (pc := 35) (v := (-11)) C dX12_copy_35 rfl ?_
        exact x_iret (pc := 37) C X dX12_copy_37 (foq (by
              unfold o_copy
              simp only [hos, hos2, hos, hos2, hns, or_true, true_or]
              repeat (first | with_reducible rfl | (refine (if_pos ?_).trans ?_; ((try simp only [inB_t, inB_f, i_lt, i_le, i_eq, ne_eq, Bool.not_eq_true, Bool.not_eq_false, hpB, decide_eq_true_eq, decide_eq_false_iff_not, li_0, li_1, li_2, li_3, li_4, li_5, li_6, li_7, li_8, li_9, li_10, li_20, li_40, li_99, li_100, li_255, li_899, li_999, li_m1, li_m2, li_m3, li_m4, li_m11, li_m12, li_m13, li_m14, li_m100] at h4 hts h11 hts2 h23 ⊢) <;> omega)) | (refine (if_neg ?_).trans ?_; ((try simp only [inB_t, inB_f, i_lt, i_le, i_eq, ne_eq, Bool.not_eq_true, Bool.not_eq_false, hpB, decide_eq_true_eq, decide_eq_false_iff_not, li_0, li_1, li_2, li_3, li_4, li_5, li_6, li_7, li_8, li_9, li_10, li_20, li_40, li_99, li_100, li_255, li_899, li_999, li_m1, li_m2, li_m3, li_m4, li_m11, li_m12, li_m13, li_m14, li_m100] at h4 hts h11 hts2 h23 ⊢) <;> omega)) | fail)
              all_goals (first | with_reducible rfl | (exfalso; ((try simp only [inB_t, inB_f, i_lt, i_le, i_eq, ne_eq, Bool.not_eq_true, Bool.not_eq_false, hpB, decide_eq_true_eq, decide_eq_false_iff_not, li_0, li_1, li_2, li_3, li_4, li_5, li_6, li_7, li_8, li_9, li_10, li_20, li_40, li_99, li_100, li_255, li_899, li_999, li_m1, li_m2, li_m3, li_m4, li_m11, li_m12, li_m13, li_m14, li_m100] at h4 hts h11 hts2 h23 ⊢) <;> omega)))) h hg)
      · have hss : (sH σ s).1 ≠ -1 := fun e => by rw [decide_eq_true e] at h23; exact absurd h23 (by decide)
        have h40s := (h.1.2.2.2.2 s hs).1
        refine x_aload_n (pc := 26) C 0 dX12_copy_26 rfl ?_
        refine g_M_isThere (pc := 27) C E q12_1 dX12_copy_27 ?_
        refine x_iload_n (pc := 30) C 3 dX12_copy_30 rfl ?_
        refine l_RisThere (pc := 31) C E (by omega) dX12_copy_31 ?_
        refine x_eq (show M 12 s2 = b2i (!decide ((sH (σ) s2).1 = -1)) from (rr_si h (by omega))) ?_
        refine x_ifb_ne (pc := 32) C 38 dX12_copy_32 (by decide) (fun h32 => ?_) (fun h32 => ?_)
        · have hss2 : (sH σ s2).1 ≠ -1 := fun e => by rw [decide_eq_true e] at h32; exact absurd h32 (by decide)
          have h40s2 := (h.1.2.2.2.2 s2 hs2).1
          refine x_aload_n (pc := 38) C 0 dX12_copy_38 rfl ?_
          refine g_M_sorts (pc := 39) C E q12_2 dX12_copy_39 ?_
          refine x_iload_n (pc := 42) C 1 dX12_copy_42 rfl ?_
          refine l_Rsorts (pc := 43) C E (by omega) dX12_copy_43 ?_
          refine x_eq (show M 13 s = (sH (σ) s).1 from (rr_so h (by omega) hss)) ?_
          refine x_aload_n (pc := 44) C 0 dX12_copy_44 rfl ?_
          refine g_M_sorts (pc := 45) C E q12_2 dX12_copy_45 ?_
          refine x_iload_n (pc := 48) C 3 dX12_copy_48 rfl ?_
          refine l_Rsorts (pc := 49) C E (by omega) dX12_copy_49 ?_
          refine x_eq (show M 13 s2 = (sH (σ) s2).1 from (rr_so h (by omega) hss2)) ?_
          refine x_icmp_eq (pc := 50) C 56 dX12_copy_50 (by decide) (fun h50 => ?_) (fun h50 => ?_)
          · refine x_iload (pc := 56) C 5 dX12_copy_56 rfl ?_
            refine x_if_lt (pc := 58) C 97 dX12_copy_58 (by decide) (fun h58 => ?_) (fun h58 => ?_)
            · refine x_bipush (pc := 97) (v := (-12)) C dX12_copy_97 rfl ?_
              exact x_iret (pc := 99) C X dX12_copy_99 (foq (by
                    unfold o_copy
                    simp only [hos, hos2, hos, hos2]
                    repeat (first | with_reducible rfl | (refine (if_pos ?_).trans ?_; ((try simp only [inB_t, inB_f, i_lt, i_le, i_eq, ne_eq, Bool.not_eq_true, Bool.not_eq_false, hpB, decide_eq_true_eq, decide_eq_false_iff_not, li_0, li_1, li_2, li_3, li_4, li_5, li_6, li_7, li_8, li_9, li_10, li_20, li_40, li_99, li_100, li_255, li_899, li_999, li_m1, li_m2, li_m3, li_m4, li_m11, li_m12, li_m13, li_m14, li_m100] at h4 hts h11 hts2 h23 hss h32 hss2 h50 h58 ⊢) <;> omega)) | (refine (if_neg ?_).trans ?_; ((try simp only [inB_t, inB_f, i_lt, i_le, i_eq, ne_eq, Bool.not_eq_true, Bool.not_eq_false, hpB, decide_eq_true_eq, decide_eq_false_iff_not, li_0, li_1, li_2, li_3, li_4, li_5, li_6, li_7, li_8, li_9, li_10, li_20, li_40, li_99, li_100, li_255, li_899, li_999, li_m1, li_m2, li_m3, li_m4, li_m11, li_m12, li_m13, li_m14, li_m100] at h4 hts h11 hts2 h23 hss h32 hss2 h50 h58 ⊢) <;> omega)) | fail)
                    all_goals (first | with_reducible rfl | (exfalso; ((try simp only [inB_t, inB_f, i_lt, i_le, i_eq, ne_eq, Bool.not_eq_true, Bool.not_eq_false, hpB, decide_eq_true_eq, decide_eq_false_iff_not, li_0, li_1, li_2, li_3, li_4, li_5, li_6, li_7, li_8, li_9, li_10, li_20, li_40, li_99, li_100, li_255, li_899, li_999, li_m1, li_m2, li_m3, li_m4, li_m11, li_m12, li_m13, li_m14, li_m100] at h4 hts h11 hts2 h23 hss h32 hss2 h50 h58 ⊢) <;> omega)))) h hg)
            · refine x_iload_n (pc := 61) C 2 dX12_copy_61 rfl ?_
              refine x_if_lt (pc := 62) C 97 dX12_copy_62 (by decide) (fun h62 => ?_) (fun h62 => ?_)
              · refine x_bipush (pc := 97) (v := (-12)) C dX12_copy_97 rfl ?_
                exact x_iret (pc := 99) C X dX12_copy_99 (foq (by
                      unfold o_copy
                      simp only [hos, hos2, hos, hos2]
                      repeat (first | with_reducible rfl | (refine (if_pos ?_).trans ?_; ((try simp only [inB_t, inB_f, i_lt, i_le, i_eq, ne_eq, Bool.not_eq_true, Bool.not_eq_false, hpB, decide_eq_true_eq, decide_eq_false_iff_not, li_0, li_1, li_2, li_3, li_4, li_5, li_6, li_7, li_8, li_9, li_10, li_20, li_40, li_99, li_100, li_255, li_899, li_999, li_m1, li_m2, li_m3, li_m4, li_m11, li_m12, li_m13, li_m14, li_m100] at h4 hts h11 hts2 h23 hss h32 hss2 h50 h58 h62 ⊢) <;> omega)) | (refine (if_neg ?_).trans ?_; ((try simp only [inB_t, inB_f, i_lt, i_le, i_eq, ne_eq, Bool.not_eq_true, Bool.not_eq_false, hpB, decide_eq_true_eq, decide_eq_false_iff_not, li_0, li_1, li_2, li_3, li_4, li_5, li_6, li_7, li_8, li_9, li_10, li_20, li_40, li_99, li_100, li_255, li_899, li_999, li_m1, li_m2, li_m3, li_m4, li_m11, li_m12, li_m13, li_m14, li_m100] at h4 hts h11 hts2 h23 hss h32 hss2 h50 h58 h62 ⊢) <;> omega)) | fail)
                      all_goals (first | with_reducible rfl | (exfalso; ((try simp only [inB_t, inB_f, i_lt, i_le, i_eq, ne_eq, Bool.not_eq_true, Bool.not_eq_false, hpB, decide_eq_true_eq, decide_eq_false_iff_not, li_0, li_1, li_2, li_3, li_4, li_5, li_6, li_7, li_8, li_9, li_10, li_20, li_40, li_99, li_100, li_255, li_899, li_999, li_m1, li_m2, li_m3, li_m4, li_m11, li_m12, li_m13, li_m14, li_m100] at h4 hts h11 hts2 h23 hss h32 hss2 h50 h58 h62 ⊢) <;> omega)))) h hg)
              · refine x_iload (pc := 65) C 4 dX12_copy_65 rfl ?_
                refine x_if_lt (pc := 67) C 97 dX12_copy_67 (by decide) (fun h67 => ?_) (fun h67 => ?_)
                · refine x_bipush (pc := 97) (v := (-12)) C dX12_copy_97 rfl ?_
                  exact x_iret (pc := 99) C X dX12_copy_99 (foq (by
                        unfold o_copy
                        simp only [hos, hos2, hos, hos2]
                        repeat (first | with_reducible rfl | (refine (if_pos ?_).trans ?_; ((try simp only [inB_t, inB_f, i_lt, i_le, i_eq, ne_eq, Bool.not_eq_true, Bool.not_eq_false, hpB, decide_eq_true_eq, decide_eq_false_iff_not, li_0, li_1, li_2, li_3, li_4, li_5, li_6, li_7, li_8, li_9, li_10, li_20, li_40, li_99, li_100, li_255, li_899, li_999, li_m1, li_m2, li_m3, li_m4, li_m11, li_m12, li_m13, li_m14, li_m100] at h4 hts h11 hts2 h23 hss h32 hss2 h50 h58 h62 h67 ⊢) <;> omega)) | (refine (if_neg ?_).trans ?_; ((try simp only [inB_t, inB_f, i_lt, i_le, i_eq, ne_eq, Bool.not_eq_true, Bool.not_eq_false, hpB, decide_eq_true_eq, decide_eq_false_iff_not, li_0, li_1, li_2, li_3, li_4, li_5, li_6, li_7, li_8, li_9, li_10, li_20, li_40, li_99, li_100, li_255, li_899, li_999, li_m1, li_m2, li_m3, li_m4, li_m11, li_m12, li_m13, li_m14, li_m100] at h4 hts h11 hts2 h23 hss h32 hss2 h50 h58 h62 h67 ⊢) <;> omega)) | fail)
                        all_goals (first | with_reducible rfl | (exfalso; ((try simp only [inB_t, inB_f, i_lt, i_le, i_eq, ne_eq, Bool.not_eq_true, Bool.not_eq_false, hpB, decide_eq_true_eq, decide_eq_false_iff_not, li_0, li_1, li_2, li_3, li_4, li_5, li_6, li_7, li_8, li_9, li_10, li_20, li_40, li_99, li_100, li_255, li_899, li_999, li_m1, li_m2, li_m3, li_m4, li_m11, li_m12, li_m13, li_m14, li_m100] at h4 hts h11 hts2 h23 hss h32 hss2 h50 h58 h62 h67 ⊢) <;> omega)))) h hg)
                · refine x_iload_n (pc := 70) C 2 dX12_copy_70 rfl ?_
                  refine x_aload_n (pc := 71) C 0 dX12_copy_71 rfl ?_
                  refine g_M_sheetSize (pc := 72) C E q12_3 dX12_copy_72 ?_
                  refine x_iload_n (pc := 75) C 1 dX12_copy_75 rfl ?_
                  refine l_RsheetSize (pc := 76) C E (by omega) dX12_copy_76 ?_
                  refine x_eq (show M 14 s = nI (sH (σ) s).2.1 from (rr_sz h (by omega) hss)) ?_
                  refine x_iload (pc := 77) C 5 dX12_copy_77 rfl ?_
                  refine x_isub (pc := 79) C dX12_copy_79 ?_
                  have hz80 := nsub_toInt (n := (sH σ s).2.1) (by omega) (y := x5) (by ((try simp only [inB_t, inB_f, i_lt, i_le, i_eq, ne_eq, Bool.not_eq_true, Bool.not_eq_false, hpB, decide_eq_true_eq, decide_eq_false_iff_not, li_0, li_1, li_2, li_3, li_4, li_5, li_6, li_7, li_8, li_9, li_10, li_20, li_40, li_99, li_100, li_255, li_899, li_999, li_m1, li_m2, li_m3, li_m4, li_m11, li_m12, li_m13, li_m14, li_m100] at h4 hts h11 hts2 h23 hss h32 hss2 h50 h58 h62 h67 ⊢) <;> omega))
                  refine x_icmp_gt (pc := 80) C 97 dX12_copy_80 (by decide) (fun h80 => ?_) (fun h80 => ?_)
                  · refine x_bipush (pc := 97) (v := (-12)) C dX12_copy_97 rfl ?_
                    exact x_iret (pc := 99) C X dX12_copy_99 (foq (by
                          unfold o_copy
                          simp only [hos, hos2, hos, hos2]
                          repeat (first | with_reducible rfl | (refine (if_pos ?_).trans ?_; ((try simp only [inB_t, inB_f, i_lt, i_le, i_eq, ne_eq, Bool.not_eq_true, Bool.not_eq_false, hpB, decide_eq_true_eq, decide_eq_false_iff_not, li_0, li_1, li_2, li_3, li_4, li_5, li_6, li_7, li_8, li_9, li_10, li_20, li_40, li_99, li_100, li_255, li_899, li_999, li_m1, li_m2, li_m3, li_m4, li_m11, li_m12, li_m13, li_m14, li_m100] at h4 hts h11 hts2 h23 hss h32 hss2 h50 h58 h62 h67 h80 ⊢) <;> omega)) | (refine (if_neg ?_).trans ?_; ((try simp only [inB_t, inB_f, i_lt, i_le, i_eq, ne_eq, Bool.not_eq_true, Bool.not_eq_false, hpB, decide_eq_true_eq, decide_eq_false_iff_not, li_0, li_1, li_2, li_3, li_4, li_5, li_6, li_7, li_8, li_9, li_10, li_20, li_40, li_99, li_100, li_255, li_899, li_999, li_m1, li_m2, li_m3, li_m4, li_m11, li_m12, li_m13, li_m14, li_m100] at h4 hts h11 hts2 h23 hss h32 hss2 h50 h58 h62 h67 h80 ⊢) <;> omega)) | fail)
                          all_goals (first | with_reducible rfl | (exfalso; ((try simp only [inB_t, inB_f, i_lt, i_le, i_eq, ne_eq, Bool.not_eq_true, Bool.not_eq_false, hpB, decide_eq_true_eq, decide_eq_false_iff_not, li_0, li_1, li_2, li_3, li_4, li_5, li_6, li_7, li_8, li_9, li_10, li_20, li_40, li_99, li_100, li_255, li_899, li_999, li_m1, li_m2, li_m3, li_m4, li_m11, li_m12, li_m13, li_m14, li_m100] at h4 hts h11 hts2 h23 hss h32 hss2 h50 h58 h62 h67 h80 ⊢) <;> omega)))) h hg)
                  · refine x_iload (pc := 83) C 4 dX12_copy_83 rfl ?_
                    refine x_aload_n (pc := 85) C 0 dX12_copy_85 rfl ?_
                    refine g_M_sheetSize (pc := 86) C E q12_3 dX12_copy_86 ?_
                    refine x_iload_n (pc := 89) C 3 dX12_copy_89 rfl ?_
                    refine l_RsheetSize (pc := 90) C E (by omega) dX12_copy_90 ?_
                    refine x_eq (show M 14 s2 = nI (sH (σ) s2).2.1 from (rr_sz h (by omega) hss2)) ?_
                    refine x_iload (pc := 91) C 5 dX12_copy_91 rfl ?_
                    refine x_isub (pc := 93) C dX12_copy_93 ?_
                    have hz94 := nsub_toInt (n := (sH σ s2).2.1) (by omega) (y := x5) (by ((try simp only [inB_t, inB_f, i_lt, i_le, i_eq, ne_eq, Bool.not_eq_true, Bool.not_eq_false, hpB, decide_eq_true_eq, decide_eq_false_iff_not, li_0, li_1, li_2, li_3, li_4, li_5, li_6, li_7, li_8, li_9, li_10, li_20, li_40, li_99, li_100, li_255, li_899, li_999, li_m1, li_m2, li_m3, li_m4, li_m11, li_m12, li_m13, li_m14, li_m100] at h4 hts h11 hts2 h23 hss h32 hss2 h50 h58 h62 h67 h80 ⊢) <;> omega))
                    refine x_icmp_le (pc := 94) C 100 dX12_copy_94 (by decide) (fun h94 => ?_) (fun h94 => ?_)
                    · have hnn4 : inB x5 41 = true := (by ((try simp only [inB_t, inB_f, i_lt, i_le, i_eq, ne_eq, Bool.not_eq_true, Bool.not_eq_false, hpB, decide_eq_true_eq, decide_eq_false_iff_not, li_0, li_1, li_2, li_3, li_4, li_5, li_6, li_7, li_8, li_9, li_10, li_20, li_40, li_99, li_100, li_255, li_899, li_999, li_m1, li_m2, li_m3, li_m4, li_m11, li_m12, li_m13, li_m14, li_m100] at h4 hts h11 hts2 h23 hss h32 hss2 h50 h58 h62 h67 h80 h94 ⊢) <;> omega))
                      have hii4 : inB x2 41 = true := (by ((try simp only [inB_t, inB_f, i_lt, i_le, i_eq, ne_eq, Bool.not_eq_true, Bool.not_eq_false, hpB, decide_eq_true_eq, decide_eq_false_iff_not, li_0, li_1, li_2, li_3, li_4, li_5, li_6, li_7, li_8, li_9, li_10, li_20, li_40, li_99, li_100, li_255, li_899, li_999, li_m1, li_m2, li_m3, li_m4, li_m11, li_m12, li_m13, li_m14, li_m100] at h4 hts h11 hts2 h23 hss h32 hss2 h50 h58 h62 h67 h80 h94 ⊢) <;> omega))
                      have hjj4 : inB x4 41 = true := (by ((try simp only [inB_t, inB_f, i_lt, i_le, i_eq, ne_eq, Bool.not_eq_true, Bool.not_eq_false, hpB, decide_eq_true_eq, decide_eq_false_iff_not, li_0, li_1, li_2, li_3, li_4, li_5, li_6, li_7, li_8, li_9, li_10, li_20, li_40, li_99, li_100, li_255, li_899, li_999, li_m1, li_m2, li_m3, li_m4, li_m11, li_m12, li_m13, li_m14, li_m100] at h4 hts h11 hts2 h23 hss h32 hss2 h50 h58 h62 h67 h80 h94 ⊢) <;> omega))
                      obtain ⟨nn, hnn, enn⟩ := inB_of hnn4 (by omega)
                      have htnn := nI_toInt (n := nn) (by omega)
                      have honn := oN_nI (n := nn) (by omega)
                      subst enn
                      obtain ⟨ii, hii, eii⟩ := inB_of hii4 (by omega)
                      have htii := nI_toInt (n := ii) (by omega)
                      have hoii := oN_nI (n := ii) (by omega)
                      subst eii
                      obtain ⟨jj, hjj, ejj⟩ := inB_of hjj4 (by omega)
                      have htjj := nI_toInt (n := jj) (by omega)
                      have hojj := oN_nI (n := jj) (by omega)
                      subst ejj
                      have hin : ii + nn ≤ (sH σ s).2.1 := (by ((try simp only [inB_t, inB_f, i_lt, i_le, i_eq, ne_eq, Bool.not_eq_true, Bool.not_eq_false, hpB, decide_eq_true_eq, decide_eq_false_iff_not, li_0, li_1, li_2, li_3, li_4, li_5, li_6, li_7, li_8, li_9, li_10, li_20, li_40, li_99, li_100, li_255, li_899, li_999, li_m1, li_m2, li_m3, li_m4, li_m11, li_m12, li_m13, li_m14, li_m100] at h4 hts h11 hts2 h23 hss h32 hss2 h50 h58 h62 h67 h80 h94 htnn htii htjj ⊢) <;> omega))
                      have hjn : jj + nn ≤ (sH σ s2).2.1 := (by ((try simp only [inB_t, inB_f, i_lt, i_le, i_eq, ne_eq, Bool.not_eq_true, Bool.not_eq_false, hpB, decide_eq_true_eq, decide_eq_false_iff_not, li_0, li_1, li_2, li_3, li_4, li_5, li_6, li_7, li_8, li_9, li_10, li_20, li_40, li_99, li_100, li_255, li_899, li_999, li_m1, li_m2, li_m3, li_m4, li_m11, li_m12, li_m13, li_m14, li_m100] at h4 hts h11 hts2 h23 hss h32 hss2 h50 h58 h62 h67 h80 h94 htnn htii htjj ⊢) <;> omega))
                      refine x_iload_n (pc := 100) C 1 dX12_copy_100 rfl ?_
                      refine x_iload_n (pc := 101) C 3 dX12_copy_101 rfl ?_
                      refine x_icmp_ne (pc := 102) C 115 dX12_copy_102 (by decide) (fun h102 => ?_) (fun h102 => ?_)
                      · have hup : s ≠ s2 ∨ jj ≤ ii := Or.inl (fun e => h102 (by rw [e]))
                        refine x_iconst (pc := 115) (v := 0) C dX12_copy_115 rfl ?_
                        refine x_istore (pc := 116) (L' := [(6, .int 0), (0, .ref (t.1 0)), (1, .int (nI s)), (2, .int (nI ii)), (3, .int (nI s2)), (4, .int (nI jj)), (5, .int (nI nn))]) C dX12_copy_116 (by decide) rfl ?_
                        refine x_iconst (pc := 118) (v := 0) C dX12_copy_118 rfl ?_
                        refine x_istore (pc := 119) (L' := [(7, .int 0), (6, .int 0), (0, .ref (t.1 0)), (1, .int (nI s)), (2, .int (nI ii)), (3, .int (nI s2)), (4, .int (nI jj)), (5, .int (nI nn))]) C dX12_copy_119 (by decide) rfl ?_
                        have loop121 : ∀ (k q : Nat) (y : Int32) (Mx : MM) , q + k = nn → y = nI q → CyR s ii s2 jj nn 0 q M Mx → XV κ (xP (wR t) Mx) 121 [(7, .int y), (6, .int 0), (0, .ref (t.1 0)), (1, .int (nI s)), (2, .int (nI ii)), (3, .int (nI s2)), (4, .int (nI jj)), (5, .int (nI nn))] [] := by
                          intro k
                          induction k with
                            | zero =>
                              intro q y Mx  hcnt ey eMx
                              subst ey
                              obtain rfl : nn = q := by omega
                              refine x_iload (pc := 121) C 0 dX12_copy_121 rfl ?_
                              refine x_iload (pc := 123) C 7 dX12_copy_123 rfl ?_
                              refine x_icmp_ge_t (pc := 125) C 182 dX12_copy_125 (by decide) (nI_le (by omega) (by omega)) ?_
                              refine x_iload (pc := 182) C 7 dX12_copy_182 rfl ?_
                              exact x_iret (pc := 184) C X dX12_copy_184 (foq (by
                                    unfold o_copy
                                    simp only [hos, hos2, honn, hoii, hojj, hos, hos2]
                                    repeat (first | with_reducible rfl | (refine (if_pos ?_).trans ?_; ((try simp only [inB_t, inB_f, i_lt, i_le, i_eq, ne_eq, Bool.not_eq_true, Bool.not_eq_false, hpB, decide_eq_true_eq, decide_eq_false_iff_not, li_0, li_1, li_2, li_3, li_4, li_5, li_6, li_7, li_8, li_9, li_10, li_20, li_40, li_99, li_100, li_255, li_899, li_999, li_m1, li_m2, li_m3, li_m4, li_m11, li_m12, li_m13, li_m14, li_m100] at h4 hts h11 hts2 h23 hss h32 hss2 h50 h58 h62 h67 h80 h94 htnn htii htjj h102 ⊢) <;> omega)) | (refine (if_neg ?_).trans ?_; ((try simp only [inB_t, inB_f, i_lt, i_le, i_eq, ne_eq, Bool.not_eq_true, Bool.not_eq_false, hpB, decide_eq_true_eq, decide_eq_false_iff_not, li_0, li_1, li_2, li_3, li_4, li_5, li_6, li_7, li_8, li_9, li_10, li_20, li_40, li_99, li_100, li_255, li_899, li_999, li_m1, li_m2, li_m3, li_m4, li_m11, li_m12, li_m13, li_m14, li_m100] at h4 hts h11 hts2 h23 hss h32 hss2 h50 h58 h62 h67 h80 h94 htnn htii htjj h102 ⊢) <;> omega)) | fail)
                                    all_goals (first | with_reducible rfl | (exfalso; ((try simp only [inB_t, inB_f, i_lt, i_le, i_eq, ne_eq, Bool.not_eq_true, Bool.not_eq_false, hpB, decide_eq_true_eq, decide_eq_false_iff_not, li_0, li_1, li_2, li_3, li_4, li_5, li_6, li_7, li_8, li_9, li_10, li_20, li_40, li_99, li_100, li_255, li_899, li_999, li_m1, li_m2, li_m3, li_m4, li_m11, li_m12, li_m13, li_m14, li_m100] at h4 hts h11 hts2 h23 hss h32 hss2 h50 h58 h62 h67 h80 h94 htnn htii htjj h102 ⊢) <;> omega)))) (rr_copy h hs hs2 hss hss2 hin hjn eMx) ((eMx.2 _ _ (by omega)).trans hg))
                            | succ k ih =>
                              intro q y Mx  hcnt ey eMx
                              subst ey
                              have hi121 : q < nn := by omega
                              refine x_iload (pc := 121) C 0 dX12_copy_121 rfl ?_
                              refine x_iload (pc := 123) C 7 dX12_copy_123 rfl ?_
                              refine x_icmp_ge_f (pc := 125) C 182 dX12_copy_125 (by decide) (nI_ge (by omega) (by omega)) ?_
                              refine x_iload (pc := 128) C 1 dX12_copy_128 rfl ?_
                              refine x_if_eq_t (pc := 130) C 143 dX12_copy_130 (by decide) (by decide) ?_
                              refine x_iload (pc := 143) C 0 dX12_copy_143 rfl ?_
                              refine x_istore (pc := 145) (L' := [(8, .int (nI q)), (7, .int (nI q)), (6, .int 0), (0, .ref (t.1 0)), (1, .int (nI s)), (2, .int (nI ii)), (3, .int (nI s2)), (4, .int (nI jj)), (5, .int (nI nn))]) C dX12_copy_145 (by decide) rfl ?_
                              refine x_aload_n (pc := 147) C 3 dX12_copy_147 rfl ?_
                              refine g_M_items (pc := 148) C E q12_4 dX12_copy_148 ?_
                              refine x_bipush (pc := 151) (v := (nI 40)) C dX12_copy_151 (by decide) ?_
                              refine x_iload_n (pc := 153) C 6 dX12_copy_153 rfl ?_
                              refine x_imul (pc := 154) C dX12_copy_154 ?_
                              refine x_eq (show (nI 40) * (nI s2) = nI (40 * s2) from pk_mul _ _) ?_
                              refine x_iload (pc := 155) C 7 dX12_copy_155 rfl ?_
                              refine x_iadd (pc := 157) C dX12_copy_157 ?_
                              refine x_eq (show (nI (40 * s2)) + (nI jj) = nI (40 * s2 + jj) from nI_add _ _) ?_
                              refine x_iload (pc := 158) C 0 dX12_copy_158 rfl ?_
                              refine x_iadd (pc := 160) C dX12_copy_160 ?_
                              refine x_eq (show (nI (40 * s2 + jj)) + (nI q) = nI (40 * s2 + jj + q) from nI_add _ _) ?_
                              refine x_aload_n (pc := 161) C 3 dX12_copy_161 rfl ?_
                              refine g_M_items (pc := 162) C E q12_4 dX12_copy_162 ?_
                              refine x_bipush (pc := 165) (v := (nI 40)) C dX12_copy_165 (by decide) ?_
                              refine x_iload_n (pc := 167) C 4 dX12_copy_167 rfl ?_
                              refine x_imul (pc := 168) C dX12_copy_168 ?_
                              refine x_eq (show (nI 40) * (nI s) = nI (40 * s) from pk_mul _ _) ?_
                              refine x_iload_n (pc := 169) C 5 dX12_copy_169 rfl ?_
                              refine x_iadd (pc := 170) C dX12_copy_170 ?_
                              refine x_eq (show (nI (40 * s)) + (nI ii) = nI (40 * s + ii) from nI_add _ _) ?_
                              refine x_iload (pc := 171) C 0 dX12_copy_171 rfl ?_
                              refine x_iadd (pc := 173) C dX12_copy_173 ?_
                              refine x_eq (show (nI (40 * s + ii)) + (nI q) = nI (40 * s + ii + q) from nI_add _ _) ?_
                              refine l_Ritems (pc := 174) C E (by omega) dX12_copy_174 ?_
                              refine s_Ritems (pc := 175) C E (by omega) dX12_copy_175 ?_
                              refine x_iinc (pc := 176) (v := nI (q + 1)) (L' := [(7, .int (nI (q + 1))), (8, .int (nI q)), (6, .int 0), (0, .ref (t.1 0)), (1, .int (nI s)), (2, .int (nI ii)), (3, .int (nI s2)), (4, .int (nI jj)), (5, .int (nI nn))]) C 1 dX12_copy_176 rfl (nI_1 _) (by decide) rfl ?_
                              refine x_goto (pc := 179) C 121 dX12_copy_179 (by decide) ?_
                              refine x_sub [0, 2, 3, 4, 5, 6, 7, 8] rfl ?_
                              exact ih (q + 1) _ _ (by omega) rfl (CyR_dn (by omega) eMx)
                        refine x_sub [0, 1, 2, 3, 4, 5, 6, 7] rfl ?_
                        exact loop121 nn 0 _ M (by omega) rfl ⟨fun p _ h2 => absurd h2 (Nat.not_lt_zero _), fun _ _ _ => rfl⟩
                      · refine x_iload_n (pc := 105) C 2 dX12_copy_105 rfl ?_
                        refine x_iload (pc := 106) C 4 dX12_copy_106 rfl ?_
                        refine x_icmp_ge (pc := 108) C 115 dX12_copy_108 (by decide) (fun h108 => ?_) (fun h108 => ?_)
                        · have hup : s ≠ s2 ∨ jj ≤ ii := Or.inr (by rw [i_le, htjj, htii] at h108; omega)
                          refine x_iconst (pc := 115) (v := 0) C dX12_copy_115 rfl ?_
                          refine x_istore (pc := 116) (L' := [(6, .int 0), (0, .ref (t.1 0)), (1, .int (nI s)), (2, .int (nI ii)), (3, .int (nI s2)), (4, .int (nI jj)), (5, .int (nI nn))]) C dX12_copy_116 (by decide) rfl ?_
                          refine x_iconst (pc := 118) (v := 0) C dX12_copy_118 rfl ?_
                          refine x_istore (pc := 119) (L' := [(7, .int 0), (6, .int 0), (0, .ref (t.1 0)), (1, .int (nI s)), (2, .int (nI ii)), (3, .int (nI s2)), (4, .int (nI jj)), (5, .int (nI nn))]) C dX12_copy_119 (by decide) rfl ?_
                          have loop121 : ∀ (k q : Nat) (y : Int32) (Mx : MM) , q + k = nn → y = nI q → CyR s ii s2 jj nn 0 q M Mx → XV κ (xP (wR t) Mx) 121 [(7, .int y), (6, .int 0), (0, .ref (t.1 0)), (1, .int (nI s)), (2, .int (nI ii)), (3, .int (nI s2)), (4, .int (nI jj)), (5, .int (nI nn))] [] := by
                            intro k
                            induction k with
                              | zero =>
                                intro q y Mx  hcnt ey eMx
                                subst ey
                                obtain rfl : nn = q := by omega
                                refine x_iload (pc := 121) C 0 dX12_copy_121 rfl ?_
                                refine x_iload (pc := 123) C 7 dX12_copy_123 rfl ?_
                                refine x_icmp_ge_t (pc := 125) C 182 dX12_copy_125 (by decide) (nI_le (by omega) (by omega)) ?_
                                refine x_iload (pc := 182) C 7 dX12_copy_182 rfl ?_
                                exact x_iret (pc := 184) C X dX12_copy_184 (foq (by
                                      unfold o_copy
                                      simp only [hos, hos2, honn, hoii, hojj, hos, hos2]
                                      repeat (first | with_reducible rfl | (refine (if_pos ?_).trans ?_; ((try simp only [inB_t, inB_f, i_lt, i_le, i_eq, ne_eq, Bool.not_eq_true, Bool.not_eq_false, hpB, decide_eq_true_eq, decide_eq_false_iff_not, li_0, li_1, li_2, li_3, li_4, li_5, li_6, li_7, li_8, li_9, li_10, li_20, li_40, li_99, li_100, li_255, li_899, li_999, li_m1, li_m2, li_m3, li_m4, li_m11, li_m12, li_m13, li_m14, li_m100] at h4 hts h11 hts2 h23 hss h32 hss2 h50 h58 h62 h67 h80 h94 htnn htii htjj h102 h108 ⊢) <;> omega)) | (refine (if_neg ?_).trans ?_; ((try simp only [inB_t, inB_f, i_lt, i_le, i_eq, ne_eq, Bool.not_eq_true, Bool.not_eq_false, hpB, decide_eq_true_eq, decide_eq_false_iff_not, li_0, li_1, li_2, li_3, li_4, li_5, li_6, li_7, li_8, li_9, li_10, li_20, li_40, li_99, li_100, li_255, li_899, li_999, li_m1, li_m2, li_m3, li_m4, li_m11, li_m12, li_m13, li_m14, li_m100] at h4 hts h11 hts2 h23 hss h32 hss2 h50 h58 h62 h67 h80 h94 htnn htii htjj h102 h108 ⊢) <;> omega)) | fail)
                                      all_goals (first | with_reducible rfl | (exfalso; ((try simp only [inB_t, inB_f, i_lt, i_le, i_eq, ne_eq, Bool.not_eq_true, Bool.not_eq_false, hpB, decide_eq_true_eq, decide_eq_false_iff_not, li_0, li_1, li_2, li_3, li_4, li_5, li_6, li_7, li_8, li_9, li_10, li_20, li_40, li_99, li_100, li_255, li_899, li_999, li_m1, li_m2, li_m3, li_m4, li_m11, li_m12, li_m13, li_m14, li_m100] at h4 hts h11 hts2 h23 hss h32 hss2 h50 h58 h62 h67 h80 h94 htnn htii htjj h102 h108 ⊢) <;> omega)))) (rr_copy h hs hs2 hss hss2 hin hjn eMx) ((eMx.2 _ _ (by omega)).trans hg))
                              | succ k ih =>
                                intro q y Mx  hcnt ey eMx
                                subst ey
                                have hi121 : q < nn := by omega
                                refine x_iload (pc := 121) C 0 dX12_copy_121 rfl ?_
                                refine x_iload (pc := 123) C 7 dX12_copy_123 rfl ?_
                                refine x_icmp_ge_f (pc := 125) C 182 dX12_copy_125 (by decide) (nI_ge (by omega) (by omega)) ?_
                                refine x_iload (pc := 128) C 1 dX12_copy_128 rfl ?_
                                refine x_if_eq_t (pc := 130) C 143 dX12_copy_130 (by decide) (by decide) ?_
                                refine x_iload (pc := 143) C 0 dX12_copy_143 rfl ?_
                                refine x_istore (pc := 145) (L' := [(8, .int (nI q)), (7, .int (nI q)), (6, .int 0), (0, .ref (t.1 0)), (1, .int (nI s)), (2, .int (nI ii)), (3, .int (nI s2)), (4, .int (nI jj)), (5, .int (nI nn))]) C dX12_copy_145 (by decide) rfl ?_
                                refine x_aload_n (pc := 147) C 3 dX12_copy_147 rfl ?_
                                refine g_M_items (pc := 148) C E q12_4 dX12_copy_148 ?_
                                refine x_bipush (pc := 151) (v := (nI 40)) C dX12_copy_151 (by decide) ?_
                                refine x_iload_n (pc := 153) C 6 dX12_copy_153 rfl ?_
                                refine x_imul (pc := 154) C dX12_copy_154 ?_
                                refine x_eq (show (nI 40) * (nI s2) = nI (40 * s2) from pk_mul _ _) ?_
                                refine x_iload (pc := 155) C 7 dX12_copy_155 rfl ?_
                                refine x_iadd (pc := 157) C dX12_copy_157 ?_
                                refine x_eq (show (nI (40 * s2)) + (nI jj) = nI (40 * s2 + jj) from nI_add _ _) ?_
                                refine x_iload (pc := 158) C 0 dX12_copy_158 rfl ?_
                                refine x_iadd (pc := 160) C dX12_copy_160 ?_
                                refine x_eq (show (nI (40 * s2 + jj)) + (nI q) = nI (40 * s2 + jj + q) from nI_add _ _) ?_
                                refine x_aload_n (pc := 161) C 3 dX12_copy_161 rfl ?_
                                refine g_M_items (pc := 162) C E q12_4 dX12_copy_162 ?_
                                refine x_bipush (pc := 165) (v := (nI 40)) C dX12_copy_165 (by decide) ?_
                                refine x_iload_n (pc := 167) C 4 dX12_copy_167 rfl ?_
                                refine x_imul (pc := 168) C dX12_copy_168 ?_
                                refine x_eq (show (nI 40) * (nI s) = nI (40 * s) from pk_mul _ _) ?_
                                refine x_iload_n (pc := 169) C 5 dX12_copy_169 rfl ?_
                                refine x_iadd (pc := 170) C dX12_copy_170 ?_
                                refine x_eq (show (nI (40 * s)) + (nI ii) = nI (40 * s + ii) from nI_add _ _) ?_
                                refine x_iload (pc := 171) C 0 dX12_copy_171 rfl ?_
                                refine x_iadd (pc := 173) C dX12_copy_173 ?_
                                refine x_eq (show (nI (40 * s + ii)) + (nI q) = nI (40 * s + ii + q) from nI_add _ _) ?_
                                refine l_Ritems (pc := 174) C E (by omega) dX12_copy_174 ?_
                                refine s_Ritems (pc := 175) C E (by omega) dX12_copy_175 ?_
                                refine x_iinc (pc := 176) (v := nI (q + 1)) (L' := [(7, .int (nI (q + 1))), (8, .int (nI q)), (6, .int 0), (0, .ref (t.1 0)), (1, .int (nI s)), (2, .int (nI ii)), (3, .int (nI s2)), (4, .int (nI jj)), (5, .int (nI nn))]) C 1 dX12_copy_176 rfl (nI_1 _) (by decide) rfl ?_
                                refine x_goto (pc := 179) C 121 dX12_copy_179 (by decide) ?_
                                refine x_sub [0, 2, 3, 4, 5, 6, 7, 8] rfl ?_
                                exact ih (q + 1) _ _ (by omega) rfl (CyR_dn (by omega) eMx)
                          refine x_sub [0, 1, 2, 3, 4, 5, 6, 7] rfl ?_
                          exact loop121 nn 0 _ M (by omega) rfl ⟨fun p _ h2 => absurd h2 (Nat.not_lt_zero _), fun _ _ _ => rfl⟩
                        · have hup1 : s = s2 := (nI_eq (by omega) (by omega)).mp h102
                          have hup2 : ii < jj := (by rw [i_le, htjj, htii] at h108; omega)
                          refine x_iconst (pc := 111) (v := 1) C dX12_copy_111 rfl ?_
                          refine x_goto (pc := 112) C 116 dX12_copy_112 (by decide) ?_
                          refine x_istore (pc := 116) (L' := [(6, .int 1), (0, .ref (t.1 0)), (1, .int (nI s)), (2, .int (nI ii)), (3, .int (nI s2)), (4, .int (nI jj)), (5, .int (nI nn))]) C dX12_copy_116 (by decide) rfl ?_
                          refine x_iconst (pc := 118) (v := 0) C dX12_copy_118 rfl ?_
                          refine x_istore (pc := 119) (L' := [(7, .int 0), (6, .int 1), (0, .ref (t.1 0)), (1, .int (nI s)), (2, .int (nI ii)), (3, .int (nI s2)), (4, .int (nI jj)), (5, .int (nI nn))]) C dX12_copy_119 (by decide) rfl ?_
                          have loop121 : ∀ (k q : Nat) (y : Int32) (Mx : MM) , q + k = nn → y = nI q → CyR s ii s2 jj nn (nn - q) nn M Mx → XV κ (xP (wR t) Mx) 121 [(7, .int y), (6, .int 1), (0, .ref (t.1 0)), (1, .int (nI s)), (2, .int (nI ii)), (3, .int (nI s2)), (4, .int (nI jj)), (5, .int (nI nn))] [] := by
                            intro k
                            induction k with
                              | zero =>
                                intro q y Mx  hcnt ey eMx
                                subst ey
                                obtain rfl : nn = q := by omega
                                refine x_iload (pc := 121) C 0 dX12_copy_121 rfl ?_
                                refine x_iload (pc := 123) C 7 dX12_copy_123 rfl ?_
                                refine x_icmp_ge_t (pc := 125) C 182 dX12_copy_125 (by decide) (nI_le (by omega) (by omega)) ?_
                                refine x_iload (pc := 182) C 7 dX12_copy_182 rfl ?_
                                exact x_iret (pc := 184) C X dX12_copy_184 (foq (by
                                      unfold o_copy
                                      simp only [hos, hos2, honn, hoii, hojj, hos, hos2]
                                      repeat (first | with_reducible rfl | (refine (if_pos ?_).trans ?_; ((try simp only [inB_t, inB_f, i_lt, i_le, i_eq, ne_eq, Bool.not_eq_true, Bool.not_eq_false, hpB, decide_eq_true_eq, decide_eq_false_iff_not, li_0, li_1, li_2, li_3, li_4, li_5, li_6, li_7, li_8, li_9, li_10, li_20, li_40, li_99, li_100, li_255, li_899, li_999, li_m1, li_m2, li_m3, li_m4, li_m11, li_m12, li_m13, li_m14, li_m100] at h4 hts h11 hts2 h23 hss h32 hss2 h50 h58 h62 h67 h80 h94 htnn htii htjj h102 h108 ⊢) <;> omega)) | (refine (if_neg ?_).trans ?_; ((try simp only [inB_t, inB_f, i_lt, i_le, i_eq, ne_eq, Bool.not_eq_true, Bool.not_eq_false, hpB, decide_eq_true_eq, decide_eq_false_iff_not, li_0, li_1, li_2, li_3, li_4, li_5, li_6, li_7, li_8, li_9, li_10, li_20, li_40, li_99, li_100, li_255, li_899, li_999, li_m1, li_m2, li_m3, li_m4, li_m11, li_m12, li_m13, li_m14, li_m100] at h4 hts h11 hts2 h23 hss h32 hss2 h50 h58 h62 h67 h80 h94 htnn htii htjj h102 h108 ⊢) <;> omega)) | fail)
                                      all_goals (first | with_reducible rfl | (exfalso; ((try simp only [inB_t, inB_f, i_lt, i_le, i_eq, ne_eq, Bool.not_eq_true, Bool.not_eq_false, hpB, decide_eq_true_eq, decide_eq_false_iff_not, li_0, li_1, li_2, li_3, li_4, li_5, li_6, li_7, li_8, li_9, li_10, li_20, li_40, li_99, li_100, li_255, li_899, li_999, li_m1, li_m2, li_m3, li_m4, li_m11, li_m12, li_m13, li_m14, li_m100] at h4 hts h11 hts2 h23 hss h32 hss2 h50 h58 h62 h67 h80 h94 htnn htii htjj h102 h108 ⊢) <;> omega)))) (rr_copy h hs hs2 hss hss2 hin hjn (by have e := eMx; rw [Nat.sub_self] at e; exact e)) ((eMx.2 _ _ (by omega)).trans hg))
                              | succ k ih =>
                                intro q y Mx  hcnt ey eMx
                                subst ey
                                have hi121 : q < nn := by omega
                                refine x_iload (pc := 121) C 0 dX12_copy_121 rfl ?_
                                refine x_iload (pc := 123) C 7 dX12_copy_123 rfl ?_
                                refine x_icmp_ge_f (pc := 125) C 182 dX12_copy_125 (by decide) (nI_ge (by omega) (by omega)) ?_
                                refine x_iload (pc := 128) C 1 dX12_copy_128 rfl ?_
                                refine x_if_eq_f (pc := 130) C 143 dX12_copy_130 (by decide) (by decide) ?_
                                refine x_iload (pc := 133) C 7 dX12_copy_133 rfl ?_
                                refine x_iconst (pc := 135) (v := 1) C dX12_copy_135 rfl ?_
                                refine x_isub (pc := 136) C dX12_copy_136 ?_
                                refine x_eq (show (nI nn) - 1 = nI (nn - 1) from (pk_sub (b := 1) (by omega))) ?_
                                refine x_iload (pc := 137) C 0 dX12_copy_137 rfl ?_
                                refine x_isub (pc := 139) C dX12_copy_139 ?_
                                refine x_eq (show (nI (nn - 1)) - (nI q) = nI (nn - 1 - q) from (pk_sub (by omega))) ?_
                                refine x_goto (pc := 140) C 145 dX12_copy_140 (by decide) ?_
                                refine x_istore (pc := 145) (L' := [(8, .int (nI (nn - 1 - q))), (7, .int (nI q)), (6, .int 1), (0, .ref (t.1 0)), (1, .int (nI s)), (2, .int (nI ii)), (3, .int (nI s2)), (4, .int (nI jj)), (5, .int (nI nn))]) C dX12_copy_145 (by decide) rfl ?_
                                refine x_aload_n (pc := 147) C 3 dX12_copy_147 rfl ?_
                                refine g_M_items (pc := 148) C E q12_4 dX12_copy_148 ?_
                                refine x_bipush (pc := 151) (v := (nI 40)) C dX12_copy_151 (by decide) ?_
                                refine x_iload_n (pc := 153) C 6 dX12_copy_153 rfl ?_
                                refine x_imul (pc := 154) C dX12_copy_154 ?_
                                refine x_eq (show (nI 40) * (nI s2) = nI (40 * s2) from pk_mul _ _) ?_
                                refine x_iload (pc := 155) C 7 dX12_copy_155 rfl ?_
                                refine x_iadd (pc := 157) C dX12_copy_157 ?_
                                refine x_eq (show (nI (40 * s2)) + (nI jj) = nI (40 * s2 + jj) from nI_add _ _) ?_
                                refine x_iload (pc := 158) C 0 dX12_copy_158 rfl ?_
                                refine x_iadd (pc := 160) C dX12_copy_160 ?_
                                refine x_eq (show (nI (40 * s2 + jj)) + (nI (nn - 1 - q)) = nI (40 * s2 + jj + (nn - 1 - q)) from nI_add _ _) ?_
                                refine x_aload_n (pc := 161) C 3 dX12_copy_161 rfl ?_
                                refine g_M_items (pc := 162) C E q12_4 dX12_copy_162 ?_
                                refine x_bipush (pc := 165) (v := (nI 40)) C dX12_copy_165 (by decide) ?_
                                refine x_iload_n (pc := 167) C 4 dX12_copy_167 rfl ?_
                                refine x_imul (pc := 168) C dX12_copy_168 ?_
                                refine x_eq (show (nI 40) * (nI s) = nI (40 * s) from pk_mul _ _) ?_
                                refine x_iload_n (pc := 169) C 5 dX12_copy_169 rfl ?_
                                refine x_iadd (pc := 170) C dX12_copy_170 ?_
                                refine x_eq (show (nI (40 * s)) + (nI ii) = nI (40 * s + ii) from nI_add _ _) ?_
                                refine x_iload (pc := 171) C 0 dX12_copy_171 rfl ?_
                                refine x_iadd (pc := 173) C dX12_copy_173 ?_
                                refine x_eq (show (nI (40 * s + ii)) + (nI (nn - 1 - q)) = nI (40 * s + ii + (nn - 1 - q)) from nI_add _ _) ?_
                                refine l_Ritems (pc := 174) C E (by omega) dX12_copy_174 ?_
                                refine s_Ritems (pc := 175) C E (by omega) dX12_copy_175 ?_
                                refine x_iinc (pc := 176) (v := nI (q + 1)) (L' := [(7, .int (nI (q + 1))), (8, .int (nI (nn - 1 - q))), (6, .int 1), (0, .ref (t.1 0)), (1, .int (nI s)), (2, .int (nI ii)), (3, .int (nI s2)), (4, .int (nI jj)), (5, .int (nI nn))]) C 1 dX12_copy_176 rfl (nI_1 _) (by decide) rfl ?_
                                refine x_goto (pc := 179) C 121 dX12_copy_179 (by decide) ?_
                                refine x_sub [0, 2, 3, 4, 5, 6, 7, 8] rfl ?_
                                exact ih (q + 1) _ _ (by omega) rfl (CyR_up (by omega) (by omega) eMx)
                          refine x_sub [0, 1, 2, 3, 4, 5, 6, 7] rfl ?_
                          exact loop121 nn 0 _ M (by omega) rfl ⟨fun p h1 h2 => absurd h2 (by omega), fun _ _ _ => rfl⟩
                    · refine x_bipush (pc := 97) (v := (-12)) C dX12_copy_97 rfl ?_
                      exact x_iret (pc := 99) C X dX12_copy_99 (foq (by
                            unfold o_copy
                            simp only [hos, hos2, hos, hos2]
                            repeat (first | with_reducible rfl | (refine (if_pos ?_).trans ?_; ((try simp only [inB_t, inB_f, i_lt, i_le, i_eq, ne_eq, Bool.not_eq_true, Bool.not_eq_false, hpB, decide_eq_true_eq, decide_eq_false_iff_not, li_0, li_1, li_2, li_3, li_4, li_5, li_6, li_7, li_8, li_9, li_10, li_20, li_40, li_99, li_100, li_255, li_899, li_999, li_m1, li_m2, li_m3, li_m4, li_m11, li_m12, li_m13, li_m14, li_m100] at h4 hts h11 hts2 h23 hss h32 hss2 h50 h58 h62 h67 h80 h94 ⊢) <;> omega)) | (refine (if_neg ?_).trans ?_; ((try simp only [inB_t, inB_f, i_lt, i_le, i_eq, ne_eq, Bool.not_eq_true, Bool.not_eq_false, hpB, decide_eq_true_eq, decide_eq_false_iff_not, li_0, li_1, li_2, li_3, li_4, li_5, li_6, li_7, li_8, li_9, li_10, li_20, li_40, li_99, li_100, li_255, li_899, li_999, li_m1, li_m2, li_m3, li_m4, li_m11, li_m12, li_m13, li_m14, li_m100] at h4 hts h11 hts2 h23 hss h32 hss2 h50 h58 h62 h67 h80 h94 ⊢) <;> omega)) | fail)
                            all_goals (first | with_reducible rfl | (exfalso; ((try simp only [inB_t, inB_f, i_lt, i_le, i_eq, ne_eq, Bool.not_eq_true, Bool.not_eq_false, hpB, decide_eq_true_eq, decide_eq_false_iff_not, li_0, li_1, li_2, li_3, li_4, li_5, li_6, li_7, li_8, li_9, li_10, li_20, li_40, li_99, li_100, li_255, li_899, li_999, li_m1, li_m2, li_m3, li_m4, li_m11, li_m12, li_m13, li_m14, li_m100] at h4 hts h11 hts2 h23 hss h32 hss2 h50 h58 h62 h67 h80 h94 ⊢) <;> omega)))) h hg)
          · refine x_bipush (pc := 53) (v := (-13)) C dX12_copy_53 rfl ?_
            exact x_iret (pc := 55) C X dX12_copy_55 (foq (by
                  unfold o_copy
                  simp only [hos, hos2, hos, hos2]
                  repeat (first | with_reducible rfl | (refine (if_pos ?_).trans ?_; ((try simp only [inB_t, inB_f, i_lt, i_le, i_eq, ne_eq, Bool.not_eq_true, Bool.not_eq_false, hpB, decide_eq_true_eq, decide_eq_false_iff_not, li_0, li_1, li_2, li_3, li_4, li_5, li_6, li_7, li_8, li_9, li_10, li_20, li_40, li_99, li_100, li_255, li_899, li_999, li_m1, li_m2, li_m3, li_m4, li_m11, li_m12, li_m13, li_m14, li_m100] at h4 hts h11 hts2 h23 hss h32 hss2 h50 ⊢) <;> omega)) | (refine (if_neg ?_).trans ?_; ((try simp only [inB_t, inB_f, i_lt, i_le, i_eq, ne_eq, Bool.not_eq_true, Bool.not_eq_false, hpB, decide_eq_true_eq, decide_eq_false_iff_not, li_0, li_1, li_2, li_3, li_4, li_5, li_6, li_7, li_8, li_9, li_10, li_20, li_40, li_99, li_100, li_255, li_899, li_999, li_m1, li_m2, li_m3, li_m4, li_m11, li_m12, li_m13, li_m14, li_m100] at h4 hts h11 hts2 h23 hss h32 hss2 h50 ⊢) <;> omega)) | fail)
                  all_goals (first | with_reducible rfl | (exfalso; ((try simp only [inB_t, inB_f, i_lt, i_le, i_eq, ne_eq, Bool.not_eq_true, Bool.not_eq_false, hpB, decide_eq_true_eq, decide_eq_false_iff_not, li_0, li_1, li_2, li_3, li_4, li_5, li_6, li_7, li_8, li_9, li_10, li_20, li_40, li_99, li_100, li_255, li_899, li_999, li_m1, li_m2, li_m3, li_m4, li_m11, li_m12, li_m13, li_m14, li_m100] at h4 hts h11 hts2 h23 hss h32 hss2 h50 ⊢) <;> omega)))) h hg)
        · have hns2 : (sH σ s2).1 = -1 := (by
            by_cases e : (sH σ s2).1 = -1
            · exact e
            · rw [decide_eq_false e] at h32; exact absurd h32 (by decide))
          refine x_bipush (pc := 35) (v := (-11)) C dX12_copy_35 rfl ?_
          exact x_iret (pc := 37) C X dX12_copy_37 (foq (by
                unfold o_copy
                simp only [hos, hos2, hos, hos2, hns2, or_true, true_or]
                repeat (first | with_reducible rfl | (refine (if_pos ?_).trans ?_; ((try simp only [inB_t, inB_f, i_lt, i_le, i_eq, ne_eq, Bool.not_eq_true, Bool.not_eq_false, hpB, decide_eq_true_eq, decide_eq_false_iff_not, li_0, li_1, li_2, li_3, li_4, li_5, li_6, li_7, li_8, li_9, li_10, li_20, li_40, li_99, li_100, li_255, li_899, li_999, li_m1, li_m2, li_m3, li_m4, li_m11, li_m12, li_m13, li_m14, li_m100] at h4 hts h11 hts2 h23 hss h32 ⊢) <;> omega)) | (refine (if_neg ?_).trans ?_; ((try simp only [inB_t, inB_f, i_lt, i_le, i_eq, ne_eq, Bool.not_eq_true, Bool.not_eq_false, hpB, decide_eq_true_eq, decide_eq_false_iff_not, li_0, li_1, li_2, li_3, li_4, li_5, li_6, li_7, li_8, li_9, li_10, li_20, li_40, li_99, li_100, li_255, li_899, li_999, li_m1, li_m2, li_m3, li_m4, li_m11, li_m12, li_m13, li_m14, li_m100] at h4 hts h11 hts2 h23 hss h32 ⊢) <;> omega)) | fail)
                all_goals (first | with_reducible rfl | (exfalso; ((try simp only [inB_t, inB_f, i_lt, i_le, i_eq, ne_eq, Bool.not_eq_true, Bool.not_eq_false, hpB, decide_eq_true_eq, decide_eq_false_iff_not, li_0, li_1, li_2, li_3, li_4, li_5, li_6, li_7, li_8, li_9, li_10, li_20, li_40, li_99, li_100, li_255, li_899, li_999, li_m1, li_m2, li_m3, li_m4, li_m11, li_m12, li_m13, li_m14, li_m100] at h4 hts h11 hts2 h23 hss h32 ⊢) <;> omega)))) h hg)
    · refine x_bipush (pc := 14) (v := (-2)) C dX12_copy_14 rfl ?_
      exact x_iret (pc := 16) C X dX12_copy_16 (foq (by
            unfold o_copy
            simp only [hos]
            repeat (first | with_reducible rfl | (refine (if_pos ?_).trans ?_; ((try simp only [inB_t, inB_f, i_lt, i_le, i_eq, ne_eq, Bool.not_eq_true, Bool.not_eq_false, hpB, decide_eq_true_eq, decide_eq_false_iff_not, li_0, li_1, li_2, li_3, li_4, li_5, li_6, li_7, li_8, li_9, li_10, li_20, li_40, li_99, li_100, li_255, li_899, li_999, li_m1, li_m2, li_m3, li_m4, li_m11, li_m12, li_m13, li_m14, li_m100] at h4 hts h11 ⊢) <;> omega)) | (refine (if_neg ?_).trans ?_; ((try simp only [inB_t, inB_f, i_lt, i_le, i_eq, ne_eq, Bool.not_eq_true, Bool.not_eq_false, hpB, decide_eq_true_eq, decide_eq_false_iff_not, li_0, li_1, li_2, li_3, li_4, li_5, li_6, li_7, li_8, li_9, li_10, li_20, li_40, li_99, li_100, li_255, li_899, li_999, li_m1, li_m2, li_m3, li_m4, li_m11, li_m12, li_m13, li_m14, li_m100] at h4 hts h11 ⊢) <;> omega)) | fail)
            all_goals (first | with_reducible rfl | (exfalso; ((try simp only [inB_t, inB_f, i_lt, i_le, i_eq, ne_eq, Bool.not_eq_true, Bool.not_eq_false, hpB, decide_eq_true_eq, decide_eq_false_iff_not, li_0, li_1, li_2, li_3, li_4, li_5, li_6, li_7, li_8, li_9, li_10, li_20, li_40, li_99, li_100, li_255, li_899, li_999, li_m1, li_m2, li_m3, li_m4, li_m11, li_m12, li_m13, li_m14, li_m100] at h4 hts h11 ⊢) <;> omega)))) h hg)

