def GoR (D : Nat) (M B : MM) : Prop := B 0 7 = nI D ∧ ∀ a b, (a ≠ 0 ∨ b ≠ 7) → B a b = M a b
theorem go_in {σ : SV} {M B : MM} {D : Nat} (h : RR σ M) (hD : D < 1000) (e : GoR D M B) : RR (setV σ (vDay (sV σ) (nI D))) B := rr_frame (rr_day_ h (x := nI D) (inB_nI hD (by decide))) (fun a b _ => by
  rw [mu_at]
  by_cases g : a = 0 ∧ b = 7
  · rw [if_pos g, g.1, g.2]; exact e.1
  · rw [if_neg g]; exact e.2 a b (by omega))
theorem go_back {σ : SV} {M N : MM} (h : RR σ M) (e : ∀ a b, (a ≠ 0 ∨ b ≠ 7) → N a b = M a b) : RR σ (mu N 0 7 (vD (sV σ))) := rr_frame h (fun a b _ => by
  rw [mu_at]
  by_cases g : a = 0 ∧ b = 7
  · rw [if_pos g, g.1, g.2]; exact (rr_day h).symm
  · rw [if_neg g]; exact e a b (by omega))
set_option maxRecDepth 100000 in
set_option maxHeartbeats 800000 in
theorem c_X12_goes (t : CT) {σ : SV} {M : MM} (h : RR σ M) (hg : M 0 28 = 0) (x1 : Int32)  : XMet (wR t) yX12_goes cX12_goes 4 (some .int) 3 [.ref (t.1 0), .int x1] M (oQ (σ, a_goes σ x1)) := by
  refine x_met RX12 (by decide) rfl (Nat.le_of_ble_eq_true rfl) (fun κ C X E => ?_)
  refine x_L (L' := [(0, .ref (t.1 0)), (1, .int x1)]) rfl ?_
  have hn6 := rr_n6 h
  have hN6 := h.1.1
  have hq := rr_q h
  have hB := h.1.2.1
  refine x_aload_n (pc := 0) C 0 dX12_goes_0 rfl ?_
  refine x_iload_n (pc := 1) C 1 dX12_goes_1 rfl ?_
  refine x_callV (pc := 2) C E [.int x1] [] ( c_X12_isDisk t h _) m_X12_isDisk q13_9 xo_M rfl (by decide) (Nat.le_of_ble_eq_true rfl) dX12_goes_2 rfl (k_I ?_)
  refine x_ifb_ne (pc := 5) C 11 dX12_goes_5 (by decide) (fun h5 => ?_) (fun h5 => ?_)
  · obtain ⟨d, hd, ed⟩ := inB_of h5 (by omega)
    have htd := nI_toInt (n := d) (by omega)
    have hod := oN_nI (n := d) (by omega)
    subst ed
    obtain ⟨D0, hD0, eD0⟩ := h.1.2.2.1.2.2
    refine x_aload_n (pc := 11) C 0 dX12_goes_11 rfl ?_
    refine g_M_dayNow (pc := 12) C E q13_19 dX12_goes_12 ?_
    refine x_eq (show M 0 7 = vD (sV (σ)) from (rr_day h)) ?_
    refine x_istore_n (pc := 15) (L' := [(2, .int (vD (sV (σ)))), (0, .ref (t.1 0)), (1, .int (nI d))]) C dX12_goes_15 (by decide) rfl ?_
    refine x_iconst (pc := 16) (v := (-1)) C dX12_goes_16 rfl ?_
    refine x_istore_n (pc := 17) (L' := [(3, .int (-1)), (2, .int (vD (sV (σ)))), (0, .ref (t.1 0)), (1, .int (nI d))]) C dX12_goes_17 (by decide) rfl ?_
    refine x_aload_n (pc := 18) C 2 dX12_goes_18 rfl ?_
    refine x_iload_n (pc := 19) C 1 dX12_goes_19 rfl ?_
    refine p_M_dayNow (pc := 20) C E q13_19 dX12_goes_20 ?_
    have loop23 : ∀ (k D : Nat) (Mx : MM) , D + k = 1000 → GoR D M Mx → goF (sV σ) d D k = a_goes σ (nI d) → XV κ (xP (wR t) Mx) 23 [(3, .int (-1)), (2, .int (vD (sV (σ)))), (0, .ref (t.1 0)), (1, .int (nI d))] [] := by
      intro k
      induction k with
        | zero =>
          intro D  Mx  hcnt  eMx hl
          obtain rfl : 1000 = D := by omega
          refine x_aload_n (pc := 23) C 2 dX12_goes_23 rfl ?_
          refine g_M_dayNow (pc := 24) C E q13_19 dX12_goes_24 ?_
          refine x_eq (show Mx 0 7 = nI 1000 from eMx.1) ?_
          refine x_sipush (pc := 27) (v := 999) C dX12_goes_27 rfl ?_
          refine x_icmp_gt_t (pc := 30) C 68 dX12_goes_30 (by decide) (by decide) ?_
          refine x_aload_n (pc := 68) C 2 dX12_goes_68 rfl ?_
          refine x_iload_n (pc := 69) C 1 dX12_goes_69 rfl ?_
          refine p_M_dayNow (pc := 70) C E q13_19 dX12_goes_70 ?_
          refine x_iload_n (pc := 73) C 0 dX12_goes_73 rfl ?_
          exact x_iret (pc := 74) C X dX12_goes_74 (faq hl.symm (go_back h eMx.2) ((mu_k _ _ _ _ (by decide)).trans ((eMx.2 _ _ (by omega)).trans hg)))
        | succ k ih =>
          intro D  Mx  hcnt  eMx hl
          have hi23 : D < 1000 := by omega
          refine x_aload_n (pc := 23) C 2 dX12_goes_23 rfl ?_
          refine g_M_dayNow (pc := 24) C E q13_19 dX12_goes_24 ?_
          refine x_eq (show Mx 0 7 = nI D from eMx.1) ?_
          refine x_sipush (pc := 27) (v := 999) C dX12_goes_27 rfl ?_
          refine x_icmp_gt_f (pc := 30) C 68 dX12_goes_30 (by decide) (fun hh => by rw [i_lt, nI_toInt (by omega)] at hh; exact absurd hh (by show ¬ (999 : Int) < _; omega)) ?_
          refine x_iload_n (pc := 33) C 0 dX12_goes_33 rfl ?_
          refine x_iconst (pc := 34) (v := (-1)) C dX12_goes_34 rfl ?_
          refine x_icmp_ne_f (pc := 35) C 68 dX12_goes_35 (by decide) (by decide) ?_
          have hRx := go_in h (by omega) eMx
          have hwn : vN (vDay (sV σ) (nI D)) = vN (sV σ) := rfl
          refine x_aload_n (pc := 38) C 2 dX12_goes_38 rfl ?_
          refine x_iload_n (pc := 39) C 3 dX12_goes_39 rfl ?_
          refine x_callV (pc := 40) C E [.int (nI d)] [] ( c_X12_reads t hRx (d := d) (show d < vN ((vDay (sV σ) (nI D))) by omega)) m_X12_reads q13_20 xo_M rfl (by decide) (Nat.le_of_ble_eq_true rfl) dX12_goes_40 rfl (k_I ?_)
          refine x_ifb_eq (pc := 43) C 50 dX12_goes_43 (by decide) (fun h43 => ?_) (fun h43 => ?_)
          · refine x_aload_n (pc := 50) C 2 dX12_goes_50 rfl ?_
            refine g_M_dayNow (pc := 51) C E q13_19 dX12_goes_51 ?_
            refine x_eq (show Mx 0 7 = vD ((vDay (sV σ) (nI D))) from (rr_day hRx)) ?_
            refine x_eq (show vD ((vDay (sV σ) (nI D))) = nI D from rfl) ?_
            refine x_istore_n (pc := 54) (L' := [(3, .int (nI D)), (2, .int (vD (sV (σ)))), (0, .ref (t.1 0)), (1, .int (nI d))]) C dX12_goes_54 (by decide) rfl ?_
            refine x_aload_n (pc := 55) C 2 dX12_goes_55 rfl ?_
            refine x_dup (pc := 56) C dX12_goes_56 rfl ?_
            refine g_M_dayNow (pc := 57) C E q13_19 dX12_goes_57 ?_
            refine x_eq (show Mx 0 7 = vD ((vDay (sV σ) (nI D))) from (rr_day hRx)) ?_
            refine x_eq (show vD ((vDay (sV σ) (nI D))) = nI D from rfl) ?_
            refine x_iconst (pc := 60) (v := 1) C dX12_goes_60 rfl ?_
            refine x_iadd (pc := 61) C dX12_goes_61 ?_
            refine x_eq (show (nI D) + 1 = nI (D + 1) from nI_1 _) ?_
            refine p_M_dayNow (pc := 62) C E q13_19 dX12_goes_62 ?_
            refine x_goto (pc := 65) C 23 dX12_goes_65 (by decide) ?_
            refine x_sub [0, 1, 2, 3] rfl ?_
            refine x_aload_n (pc := 23) C 2 dX12_goes_23 rfl ?_
            refine g_M_dayNow (pc := 24) C E q13_19 dX12_goes_24 ?_
            refine x_eq (show (mu Mx 0 7 (nI (D + 1))) 0 7 = nI (D + 1) from (mu_s _ _ _ _)) ?_
            refine x_sipush (pc := 27) (v := 999) C dX12_goes_27 rfl ?_
            refine x_icmp_gt (pc := 30) C 68 dX12_goes_30 (by decide) (fun h30 => ?_) (fun h30 => ?_)
            · refine x_aload_n (pc := 68) C 2 dX12_goes_68 rfl ?_
              refine x_iload_n (pc := 69) C 1 dX12_goes_69 rfl ?_
              refine p_M_dayNow (pc := 70) C E q13_19 dX12_goes_70 ?_
              refine x_iload_n (pc := 73) C 0 dX12_goes_73 rfl ?_
              exact x_iret (pc := 74) C X dX12_goes_74 (faq (hl.symm.trans (by rw [goF, if_neg (by rw [show kReads (vK (sV σ) d) (nI D - vS (sV σ) d) (nI D) (vU (sV σ) d) = false from h43]; exact Bool.false_ne_true)])) (go_back h (fun a b g => by rw [mu_at, if_neg (by omega)]; exact eMx.2 a b g)) ((mu_k _ _ _ _ (by decide)).trans ((mu_k _ _ _ _ (by decide)).trans ((eMx.2 _ _ (by omega)).trans hg))))
            · refine x_iload_n (pc := 33) C 0 dX12_goes_33 rfl ?_
              refine x_iconst (pc := 34) (v := (-1)) C dX12_goes_34 rfl ?_
              refine x_icmp_ne_t (pc := 35) C 68 dX12_goes_35 (by decide) (fun h => absurd (nI_toInt (n := D) (by omega)) (by rw [h]; simp)) ?_
              refine x_aload_n (pc := 68) C 2 dX12_goes_68 rfl ?_
              refine x_iload_n (pc := 69) C 1 dX12_goes_69 rfl ?_
              refine p_M_dayNow (pc := 70) C E q13_19 dX12_goes_70 ?_
              refine x_iload_n (pc := 73) C 0 dX12_goes_73 rfl ?_
              exact x_iret (pc := 74) C X dX12_goes_74 (faq (hl.symm.trans (by rw [goF, if_neg (by rw [show kReads (vK (sV σ) d) (nI D - vS (sV σ) d) (nI D) (vU (sV σ) d) = false from h43]; exact Bool.false_ne_true)])) (go_back h (fun a b g => by rw [mu_at, if_neg (by omega)]; exact eMx.2 a b g)) ((mu_k _ _ _ _ (by decide)).trans ((mu_k _ _ _ _ (by decide)).trans ((eMx.2 _ _ (by omega)).trans hg))))
            
          · refine x_iconst (pc := 46) (v := (-1)) C dX12_goes_46 rfl ?_
            refine x_goto (pc := 47) C 54 dX12_goes_47 (by decide) ?_
            refine x_istore_n (pc := 54) (L' := [(3, .int (-1)), (2, .int (vD (sV (σ)))), (0, .ref (t.1 0)), (1, .int (nI d))]) C dX12_goes_54 (by decide) rfl ?_
            refine x_aload_n (pc := 55) C 2 dX12_goes_55 rfl ?_
            refine x_dup (pc := 56) C dX12_goes_56 rfl ?_
            refine g_M_dayNow (pc := 57) C E q13_19 dX12_goes_57 ?_
            refine x_eq (show Mx 0 7 = vD ((vDay (sV σ) (nI D))) from (rr_day hRx)) ?_
            refine x_eq (show vD ((vDay (sV σ) (nI D))) = nI D from rfl) ?_
            refine x_iconst (pc := 60) (v := 1) C dX12_goes_60 rfl ?_
            refine x_iadd (pc := 61) C dX12_goes_61 ?_
            refine x_eq (show (nI D) + 1 = nI (D + 1) from nI_1 _) ?_
            refine p_M_dayNow (pc := 62) C E q13_19 dX12_goes_62 ?_
            refine x_goto (pc := 65) C 23 dX12_goes_65 (by decide) ?_
            refine x_sub [0, 1, 2, 3] rfl ?_
            exact ih (D + 1) _ (by omega) ⟨mu_s _ _ _ _, fun a b g => by rw [mu_at, if_neg (by omega)]; exact eMx.2 a b g⟩ (by rw [← hl, goF, if_pos (show kReads (vK (sV σ) d) (nI D - vS (sV σ) d) (nI D) (vU (sV σ) d) = true from h43)])
    refine x_sub [0, 1, 2, 3] rfl ?_
    exact loop23 (1000 - D0) D0 _ (by omega) ⟨(mu_s _ _ _ _).trans eD0, fun a b g => by rw [mu_at, if_neg (by omega)]⟩ (by unfold a_goes; rw [if_neg (by rw [h5]; decide), hod, eD0, oN_nI (by omega)])
  · refine x_bipush (pc := 8) (v := (-2)) C dX12_goes_8 rfl ?_
    exact x_iret (pc := 10) C X dX12_goes_10 (faq (by
          unfold a_goes
          repeat (first | with_reducible rfl | (refine (if_pos ?_).trans ?_; ((try simp only [inB_t, inB_f, i_lt, i_le, i_eq, ne_eq, Bool.not_eq_true, Bool.not_eq_false, hpB, decide_eq_true_eq, decide_eq_false_iff_not, li_0, li_1, li_2, li_3, li_4, li_5, li_6, li_7, li_8, li_9, li_10, li_20, li_40, li_99, li_100, li_255, li_899, li_999, li_m1, li_m2, li_m3, li_m4, li_m11, li_m12, li_m13, li_m14, li_m100] at h5 ⊢) <;> omega)) | (refine (if_neg ?_).trans ?_; ((try simp only [inB_t, inB_f, i_lt, i_le, i_eq, ne_eq, Bool.not_eq_true, Bool.not_eq_false, hpB, decide_eq_true_eq, decide_eq_false_iff_not, li_0, li_1, li_2, li_3, li_4, li_5, li_6, li_7, li_8, li_9, li_10, li_20, li_40, li_99, li_100, li_255, li_899, li_999, li_m1, li_m2, li_m3, li_m4, li_m11, li_m12, li_m13, li_m14, li_m100] at h5 ⊢) <;> omega)) | fail)
          all_goals (first | with_reducible rfl | (exfalso; ((try simp only [inB_t, inB_f, i_lt, i_le, i_eq, ne_eq, Bool.not_eq_true, Bool.not_eq_false, hpB, decide_eq_true_eq, decide_eq_false_iff_not, li_0, li_1, li_2, li_3, li_4, li_5, li_6, li_7, li_8, li_9, li_10, li_20, li_40, li_99, li_100, li_255, li_899, li_999, li_m1, li_m2, li_m3, li_m4, li_m11, li_m12, li_m13, li_m14, li_m100] at h5 ⊢) <;> omega)))) h hg)

theorem pq_step {n p : Nat} (hn : 0 < n) : (p % n + 1 < n ∧ (p + 1) / n = p / n ∧ (p + 1) % n = p % n + 1) ∨ (p % n + 1 = n ∧ (p + 1) / n = p / n + 1 ∧ (p + 1) % n = 0) := by
  have h1 := Nat.div_add_mod p n
  have h2 := Nat.mod_lt p hn
  by_cases g : p % n + 1 < n
  · left
    have e : p + 1 = n * (p / n) + (p % n + 1) := by omega
    refine ⟨g, ?_, ?_⟩
    · rw [e, Nat.mul_add_div hn, Nat.div_eq_of_lt g]; rfl
    · rw [e, Nat.mul_add_mod, Nat.mod_eq_of_lt g]
  · right
    have e : p + 1 = n * (p / n + 1) := by rw [Nat.mul_add]; omega
    refine ⟨by omega, ?_, ?_⟩
    · rw [e, Nat.mul_div_cancel_left _ hn]
    · rw [e, Nat.mul_mod_right]
theorem pq_lt {n p : Nat} (h : p < n * n) : 0 < n ∧ p / n < n ∧ p % n < n := by
  have hn : 0 < n := Nat.pos_of_ne_zero (fun e => by rw [e] at h; exact absurd h (Nat.not_lt_zero _))
  exact ⟨hn, Nat.div_lt_of_lt_mul h, Nat.mod_lt _ hn⟩
theorem pq_6 {n : Nat} (h : n ≤ 6) : n * n ≤ 36 := Nat.mul_le_mul h h
def bsP (σ : SV) (k : Int32) (p : Nat) : Int32 × Int32 := bsI σ k (p / vN (sV σ)) (p % vN (sV σ)) (bsO σ k (p / vN (sV σ)))
theorem bsP_0 (σ : SV) (k : Int32) : bsP σ k 0 = (-1, jbc (vSafe (sV σ) k)) := by
  unfold bsP
  rw [Nat.zero_div, Nat.zero_mod]
  rfl
theorem bsP_n (σ : SV) (k : Int32) : bsP σ k (vN (sV σ) * vN (sV σ)) = bsO σ k (vN (sV σ)) := by
  unfold bsP
  rw [Nat.mul_mod_right]
  show bsO σ k _ = _
  rcases Nat.eq_zero_or_pos (vN (sV σ)) with g | g
  · rw [g]
  · rw [Nat.mul_div_cancel _ g]
theorem bsP_S {σ : SV} {k : Int32} {p : Nat} (hp : p < vN (sV σ) * vN (sV σ)) : bsP σ k (p + 1) = if (bsP σ k p).2 < sbX σ (p / vN (sV σ)) (p % vN (sV σ)) k then (10 * nI (p / vN (sV σ)) + nI (p % vN (sV σ)), sbX σ (p / vN (sV σ)) (p % vN (sV σ)) k) else bsP σ k p := by
  rcases pq_step (p := p) (pq_lt hp).1 with ⟨g1, g2, g3⟩ | ⟨g1, g2, g3⟩
  · unfold bsP
    rw [g2, g3, bsI]
  · unfold bsP
    rw [g2, g3]
    show bsO σ k (p / vN (sV σ) + 1) = _
    rw [bsO]
    have e : bsI σ k (p / vN (sV σ)) (p % vN (sV σ) + 1) (bsO σ k (p / vN (sV σ))) = bsI σ k (p / vN (sV σ)) (vN (sV σ)) (bsO σ k (p / vN (sV σ))) := by rw [g1]
    rw [← e, bsI]
theorem anyPQ (P : Nat → Nat → Bool) (n : Nat) : anyN (fun p => P (p / n) (p % n)) (n * n) = anyN (fun a => anyN (P a) n) n := by
  cases h : anyN (fun a => anyN (P a) n) n with
  | true =>
    obtain ⟨a, ha, g⟩ := anyN_of h
    obtain ⟨b, hb, g2⟩ := anyN_of g
    have hn : 0 < n := by omega
    refine anyN_t (d := n * a + b) ?_ ?_
    · calc n * a + b < n * a + n := by omega
        _ = n * (a + 1) := (Nat.mul_succ n a).symm
        _ ≤ n * n := Nat.mul_le_mul_left n ha
    · show P ((n * a + b) / n) ((n * a + b) % n) = true
      rw [Nat.mul_add_div hn, Nat.div_eq_of_lt hb, Nat.mul_add_mod, Nat.mod_eq_of_lt hb]
      exact g2
  | false =>
    cases h2 : anyN (fun p => P (p / n) (p % n)) (n * n) with
    | false => rfl
    | true =>
      obtain ⟨p, hp, g⟩ := anyN_of h2
      obtain ⟨h3, h4, h5⟩ := pq_lt hp
      have := anyN_f (anyN_f h h4) h5
      rw [this] at g
      cases g
theorem jb_sa (v : WV) (k : Int32) : jbc (vSafe v k) = nI (cnt (saP v 0 k) 8) := by
  rw [← vSafeG_0]
  exact jbc_mk _
theorem lb_fr {L q : Nat} {A B D : MM} (hF : FrK L A B) (hL : LbR L q B D) : FrK L A D := fun a b h6 h7 h0 h8 => (hL.2 a b h6 h7).trans (hF a b h6 h7 h0 h8)
theorem sbX_no {σ : SV} {a b : Nat} {k : Int32} (h : (!decide (a = b) && (vRd (sV σ) a && vRd (sV σ) b)) = false) : sbX σ a b k = -1 := by
  unfold sbX
  by_cases g : a = b
  · rw [if_pos g]
  · rw [decide_eq_false g] at h
    rw [if_neg g, if_pos (show (vRd (sV σ) a && vRd (sV σ) b) = false from h)]
theorem sbX_yes {σ : SV} {a b : Nat} {k : Int32} (h : (!decide (a = b) && (vRd (sV σ) a && vRd (sV σ) b)) = true) : sbX σ a b k = nI (cnt (saP (sCp σ (sV σ) a b).1 0 k) 8) := by
  rw [Bool.and_eq_true] at h
  unfold sbX
  rw [if_neg (fun e => by rw [decide_eq_true e] at h; exact absurd h.1 (by decide)), if_neg (by rw [h.2]; decide), jb_sa]
theorem bs_nn (σ : SV) (k : Int32) : ∀ a b z, 0 ≤ z.2.toInt → 0 ≤ (bsI σ k a b z).2.toInt := by
  intro a b z hz
  induction b with
  | zero => exact hz
  | succ b ih =>
    rw [bsI]
    split
    · rename_i h
      rw [i_lt] at h
      show 0 ≤ (sbX σ a b k).toInt
      omega
    · exact ih
theorem bsO_nn (σ : SV) (k : Int32) : ∀ a, 0 ≤ (bsO σ k a).2.toInt := by
  intro a
  induction a with
  | zero =>
    show 0 ≤ (jbc (vSafe (sV σ) k)).toInt
    rw [jb_sa, nI_toInt (by have := cnt_le (saP (sV σ) 0 k) 8; omega)]
    omega
  | succ a ih => exact bs_nn σ k a _ _ ih
theorem bsP_nn (σ : SV) (k : Int32) (p : Nat) : 0 ≤ (bsP σ k p).2.toInt := bs_nn σ k _ _ _ (bsO_nn σ k _)
set_option maxRecDepth 100000 in
set_option maxHeartbeats 800000 in
theorem c_X12_best (t : CT) {σ : SV} {M : MM} (h : RR σ M) (hg : M 0 28 = 0) (x1 x2 : Int32)  : XMet (wR t) yX12_best cX12_best 9 (some .int) 66 [.ref (t.1 0), .int x1, .int x2] M (oQ (σ, a_best σ x1 x2)) := by
  refine x_met RX12 (by decide) rfl (Nat.le_of_ble_eq_true rfl) (fun κ C X E => ?_)
  refine x_L (L' := [(0, .ref (t.1 0)), (1, .int x1), (2, .int x2)]) rfl ?_
  have hn6 := rr_n6 h
  have hN6 := h.1.1
  have hq := rr_q h
  have hB := h.1.2.1
  refine x_iload_n (pc := 0) C 1 dX12_best_0 rfl ?_
  refine x_i2l (pc := 1) C dX12_best_1 ?_
  refine x_lconst (pc := 2) (v := 1) C dX12_best_2 rfl ?_
  refine x_ldc2 (pc := 3) (v := 6) C q36_18 dX12_best_3 ?_
  refine x_callS (pc := 6) C E [.long (Int32.toInt64 x1), .long 1, .long 6] [] (c_X12_in t _ x1 (A := 1) (B := 6) (by decide) (by decide)) m_X12_in q13_6 rfl (by decide) (Nat.le_of_ble_eq_true rfl) dX12_best_6 rfl (k_I ?_)
  refine x_ifb_eq (pc := 9) C 22 dX12_best_9 (by decide) (fun h9 => ?_) (fun h9 => ?_)
  · refine x_bipush (pc := 22) (v := (-2)) C dX12_best_22 rfl ?_
    exact x_iret (pc := 24) C X dX12_best_24 (faq (by
          unfold a_best
          repeat (first | with_reducible rfl | (refine (if_pos ?_).trans ?_; ((try simp only [inB_t, inB_f, i_lt, i_le, i_eq, ne_eq, Bool.not_eq_true, Bool.not_eq_false, hpB, decide_eq_true_eq, decide_eq_false_iff_not, li_0, li_1, li_2, li_3, li_4, li_5, li_6, li_7, li_8, li_9, li_10, li_20, li_40, li_99, li_100, li_255, li_899, li_999, li_m1, li_m2, li_m3, li_m4, li_m11, li_m12, li_m13, li_m14, li_m100] at h9 ⊢) <;> omega)) | (refine (if_neg ?_).trans ?_; ((try simp only [inB_t, inB_f, i_lt, i_le, i_eq, ne_eq, Bool.not_eq_true, Bool.not_eq_false, hpB, decide_eq_true_eq, decide_eq_false_iff_not, li_0, li_1, li_2, li_3, li_4, li_5, li_6, li_7, li_8, li_9, li_10, li_20, li_40, li_99, li_100, li_255, li_899, li_999, li_m1, li_m2, li_m3, li_m4, li_m11, li_m12, li_m13, li_m14, li_m100] at h9 ⊢) <;> omega)) | fail)
          all_goals (first | with_reducible rfl | (exfalso; ((try simp only [inB_t, inB_f, i_lt, i_le, i_eq, ne_eq, Bool.not_eq_true, Bool.not_eq_false, hpB, decide_eq_true_eq, decide_eq_false_iff_not, li_0, li_1, li_2, li_3, li_4, li_5, li_6, li_7, li_8, li_9, li_10, li_20, li_40, li_99, li_100, li_255, li_899, li_999, li_m1, li_m2, li_m3, li_m4, li_m11, li_m12, li_m13, li_m14, li_m100] at h9 ⊢) <;> omega)))) h hg)
  · refine x_iload_n (pc := 12) C 2 dX12_best_12 rfl ?_
    refine x_i2l (pc := 13) C dX12_best_13 ?_
    refine x_lconst (pc := 14) (v := 0) C dX12_best_14 rfl ?_
    refine x_lconst (pc := 15) (v := 1) C dX12_best_15 rfl ?_
    refine x_callS (pc := 16) C E [.long (Int32.toInt64 x2), .long 0, .long 1] [] (c_X12_inB t _ x2 (n := 2) (by decide) (by decide)) m_X12_in q13_6 rfl (by decide) (Nat.le_of_ble_eq_true rfl) dX12_best_16 rfl (k_I ?_)
    refine x_ifb_ne (pc := 19) C 25 dX12_best_19 (by decide) (fun h19 => ?_) (fun h19 => ?_)
    · refine x_aload_n (pc := 25) C 0 dX12_best_25 rfl ?_
      refine x_iload_n (pc := 26) C 1 dX12_best_26 rfl ?_
      refine x_callV (pc := 27) C E [.int x1] [] (c_X12_safe t h (gn := 0) hg x1) m_X12_safe q35_2 xo_M rfl (by first | decide | omega) (Nat.le_of_ble_eq_true rfl) dX12_best_27 rfl (k_I ?_)
      refine x_eq (show _ = vSafe (sV (σ)) x1 from vSafeG_0 _ _) ?_
      refine x_eq (show vSafe (sV (σ)) x1 = mk (saP (sV σ) 0 x1) 8 from (vSafeG_0 _ _).symm) ?_
      refine x_callS (pc := 30) C E [.int (mk (saP (sV σ) 0 x1) 8)] [] (c_bits t _ (p := (saP (sV σ) 0 x1)) (n := 8) (by omega)) m_X12_bitsOf q35_6 rfl (by first | decide | omega) (Nat.le_of_ble_eq_true rfl) dX12_best_30 rfl (k_I ?_)
      refine x_eq (show nI (cnt (saP (sV σ) 0 x1) 8) = jbc (vSafe (sV σ) x1) from (jb_sa _ _).symm) ?_
      refine x_istore_n (pc := 33) (L' := [(3, .int (jbc (vSafe (sV σ) x1))), (0, .ref (t.1 0)), (1, .int x1), (2, .int x2)]) C dX12_best_33 (by decide) rfl ?_
      refine x_iconst (pc := 34) (v := (-1)) C dX12_best_34 rfl ?_
      refine x_istore (pc := 35) (L' := [(4, .int (-1)), (3, .int (jbc (vSafe (sV σ) x1))), (0, .ref (t.1 0)), (1, .int x1), (2, .int x2)]) C dX12_best_35 (by decide) rfl ?_
      refine x_aload_n (pc := 37) C 2 dX12_best_37 rfl ?_
      refine x_iconst (pc := 38) (v := (nI 0)) C dX12_best_38 (by decide) ?_
      refine x_callV (pc := 39) C E [.int (nI 0)] [] (c_X12_keeps t _ (L := 0) (by omega)) m_X12_keeps q36_19 xo_M rfl (by first | decide | omega) (Nat.le_of_ble_eq_true rfl) dX12_best_39 rfl (fun r M39 hc39 => ?_)
      obtain ⟨rfl, hK39⟩ := hc39
      have hR39 := rr_kp h hK39
      show XV κ (xP (wR t) M39) 42 _ []
      have hp36 := pq_6 hn6
      refine x_iconst (pc := 42) (v := 0) C dX12_best_42 rfl ?_
      refine x_istore (pc := 43) (L' := [(5, .int 0), (4, .int (-1)), (3, .int (jbc (vSafe (sV σ) x1))), (0, .ref (t.1 0)), (1, .int x1), (2, .int x2)]) C dX12_best_43 (by decide) rfl ?_
      have loop45 : ∀ (k p : Nat) (z : Int32) (x : Int32) (y : Int32) (Mx : MM) , p + k = vN (sV σ) * vN (sV σ) → z = (bsP σ x1 p).2 → x = (bsP σ x1 p).1 → y = nI p → (RR σ Mx ∧ Mx 0 28 = 0 ∧ FrK 0 M39 Mx) → XV κ (xP (wR t) Mx) 45 [(5, .int y), (4, .int x), (3, .int z), (0, .ref (t.1 0)), (1, .int x1), (2, .int x2)] [] := by
        intro k
        induction k with
          | zero =>
            intro p z x y Mx  hcnt ez ex ey eMx
            subst ez
            subst ex
            subst ey
            obtain rfl : vN (sV σ) * vN (sV σ) = p := by omega
            refine x_iload (pc := 45) C 0 dX12_best_45 rfl ?_
            refine x_aload_n (pc := 47) C 3 dX12_best_47 rfl ?_
            refine g_M_many (pc := 48) C E q13_13 dX12_best_48 ?_
            refine x_eq (show Mx 0 12 = nI (vN (sV (σ))) from (rr_size eMx.1)) ?_
            refine x_aload_n (pc := 51) C 3 dX12_best_51 rfl ?_
            refine g_M_many (pc := 52) C E q13_13 dX12_best_52 ?_
            refine x_eq (show Mx 0 12 = nI (vN (sV (σ))) from (rr_size eMx.1)) ?_
            refine x_imul (pc := 55) C dX12_best_55 ?_
            refine x_eq (show (nI (vN (sV (σ)))) * (nI (vN (sV (σ)))) = nI ((vN (sV (σ))) * (vN (sV (σ)))) from pk_mul _ _) ?_
            refine x_eq (show nI ((vN (sV (σ))) * (vN (sV (σ)))) = nI (vN (sV σ) * vN (sV σ)) from rfl) ?_
            refine x_icmp_ge_t (pc := 56) C 137 dX12_best_56 (by decide) (nI_le (by omega) (by omega)) ?_
            refine x_iload_n (pc := 137) C 5 dX12_best_137 rfl ?_
            refine x_if_ne (pc := 138) C 146 dX12_best_138 (by decide) (fun h138 => ?_) (fun h138 => ?_)
            · refine x_iload_n (pc := 146) C 2 dX12_best_146 rfl ?_
              exact x_iret (pc := 147) C X dX12_best_147 (faq (by rw [bsP_n]; exact (by
                    unfold a_best
                    repeat (first | with_reducible rfl | (refine (if_pos ?_).trans ?_; ((try simp only [inB_t, inB_f, i_lt, i_le, i_eq, ne_eq, Bool.not_eq_true, Bool.not_eq_false, hpB, decide_eq_true_eq, decide_eq_false_iff_not, li_0, li_1, li_2, li_3, li_4, li_5, li_6, li_7, li_8, li_9, li_10, li_20, li_40, li_99, li_100, li_255, li_899, li_999, li_m1, li_m2, li_m3, li_m4, li_m11, li_m12, li_m13, li_m14, li_m100] at h9 h19 h138 ⊢) <;> omega)) | (refine (if_neg ?_).trans ?_; ((try simp only [inB_t, inB_f, i_lt, i_le, i_eq, ne_eq, Bool.not_eq_true, Bool.not_eq_false, hpB, decide_eq_true_eq, decide_eq_false_iff_not, li_0, li_1, li_2, li_3, li_4, li_5, li_6, li_7, li_8, li_9, li_10, li_20, li_40, li_99, li_100, li_255, li_899, li_999, li_m1, li_m2, li_m3, li_m4, li_m11, li_m12, li_m13, li_m14, li_m100] at h9 h19 h138 ⊢) <;> omega)) | fail)
                    all_goals (first | with_reducible rfl | (exfalso; ((try simp only [inB_t, inB_f, i_lt, i_le, i_eq, ne_eq, Bool.not_eq_true, Bool.not_eq_false, hpB, decide_eq_true_eq, decide_eq_false_iff_not, li_0, li_1, li_2, li_3, li_4, li_5, li_6, li_7, li_8, li_9, li_10, li_20, li_40, li_99, li_100, li_255, li_899, li_999, li_m1, li_m2, li_m3, li_m4, li_m11, li_m12, li_m13, li_m14, li_m100] at h9 h19 h138 ⊢) <;> omega))))) eMx.1 eMx.2.1)
            · refine x_iload (pc := 141) C 1 dX12_best_141 rfl ?_
              refine x_goto (pc := 143) C 147 dX12_best_143 (by decide) ?_
              exact x_iret (pc := 147) C X dX12_best_147 (faq (by rw [bsP_n]; exact (by
                    unfold a_best
                    repeat (first | with_reducible rfl | (refine (if_pos ?_).trans ?_; ((try simp only [inB_t, inB_f, i_lt, i_le, i_eq, ne_eq, Bool.not_eq_true, Bool.not_eq_false, hpB, decide_eq_true_eq, decide_eq_false_iff_not, li_0, li_1, li_2, li_3, li_4, li_5, li_6, li_7, li_8, li_9, li_10, li_20, li_40, li_99, li_100, li_255, li_899, li_999, li_m1, li_m2, li_m3, li_m4, li_m11, li_m12, li_m13, li_m14, li_m100] at h9 h19 h138 ⊢) <;> omega)) | (refine (if_neg ?_).trans ?_; ((try simp only [inB_t, inB_f, i_lt, i_le, i_eq, ne_eq, Bool.not_eq_true, Bool.not_eq_false, hpB, decide_eq_true_eq, decide_eq_false_iff_not, li_0, li_1, li_2, li_3, li_4, li_5, li_6, li_7, li_8, li_9, li_10, li_20, li_40, li_99, li_100, li_255, li_899, li_999, li_m1, li_m2, li_m3, li_m4, li_m11, li_m12, li_m13, li_m14, li_m100] at h9 h19 h138 ⊢) <;> omega)) | fail)
                    all_goals (first | with_reducible rfl | (exfalso; ((try simp only [inB_t, inB_f, i_lt, i_le, i_eq, ne_eq, Bool.not_eq_true, Bool.not_eq_false, hpB, decide_eq_true_eq, decide_eq_false_iff_not, li_0, li_1, li_2, li_3, li_4, li_5, li_6, li_7, li_8, li_9, li_10, li_20, li_40, li_99, li_100, li_255, li_899, li_999, li_m1, li_m2, li_m3, li_m4, li_m11, li_m12, li_m13, li_m14, li_m100] at h9 h19 h138 ⊢) <;> omega))))) eMx.1 eMx.2.1)
          | succ k ih =>
            intro p z x y Mx  hcnt ez ex ey eMx
            subst ez
            subst ex
            subst ey
            have hi45 : p < vN (sV σ) * vN (sV σ) := by omega
            obtain ⟨hv0, hpa, hpb⟩ := pq_lt hi45
            refine x_iload (pc := 45) C 0 dX12_best_45 rfl ?_
            refine x_aload_n (pc := 47) C 3 dX12_best_47 rfl ?_
            refine g_M_many (pc := 48) C E q13_13 dX12_best_48 ?_
            refine x_eq (show Mx 0 12 = nI (vN (sV (σ))) from (rr_size eMx.1)) ?_
            refine x_aload_n (pc := 51) C 3 dX12_best_51 rfl ?_
            refine g_M_many (pc := 52) C E q13_13 dX12_best_52 ?_
            refine x_eq (show Mx 0 12 = nI (vN (sV (σ))) from (rr_size eMx.1)) ?_
            refine x_imul (pc := 55) C dX12_best_55 ?_
            refine x_eq (show (nI (vN (sV (σ)))) * (nI (vN (sV (σ)))) = nI ((vN (sV (σ))) * (vN (sV (σ)))) from pk_mul _ _) ?_
            refine x_eq (show nI ((vN (sV (σ))) * (vN (sV (σ)))) = nI (vN (sV σ) * vN (sV σ)) from rfl) ?_
            refine x_icmp_ge_f (pc := 56) C 137 dX12_best_56 (by decide) (nI_ge (by omega) (by omega)) ?_
            refine x_iload (pc := 59) C 0 dX12_best_59 rfl ?_
            refine x_aload_n (pc := 61) C 3 dX12_best_61 rfl ?_
            refine g_M_many (pc := 62) C E q13_13 dX12_best_62 ?_
            refine x_eq (show Mx 0 12 = nI (vN (sV (σ))) from (rr_size eMx.1)) ?_
            refine x_idiv (pc := 65) C dX12_best_65 (fun hh => by have := nI_toInt (n := vN (sV σ)) (by omega); rw [hh] at this; simp at this; omega) ?_
            refine x_eq (show (nI p) / (nI (vN (sV (σ)))) = nI (p / vN (sV σ)) from (pk_div (by omega) hv0 (by omega))) ?_
            refine x_istore (pc := 66) (L' := [(6, .int (nI (p / vN (sV σ)))), (5, .int (nI p)), (4, .int ((bsP σ x1 p).1)), (3, .int ((bsP σ x1 p).2)), (0, .ref (t.1 0)), (1, .int x1), (2, .int x2)]) C dX12_best_66 (by decide) rfl ?_
            refine x_iload (pc := 68) C 1 dX12_best_68 rfl ?_
            refine x_aload_n (pc := 70) C 4 dX12_best_70 rfl ?_
            refine g_M_many (pc := 71) C E q13_13 dX12_best_71 ?_
            refine x_eq (show Mx 0 12 = nI (vN (sV (σ))) from (rr_size eMx.1)) ?_
            refine x_irem (pc := 74) C dX12_best_74 (fun hh => by have := nI_toInt (n := vN (sV σ)) (by omega); rw [hh] at this; simp at this; omega) ?_
            refine x_eq (show (nI p) - (nI p) / (nI (vN (sV (σ)))) * (nI (vN (sV (σ)))) = nI (p % vN (sV σ)) from (pk_rem (by omega) hv0 (by omega))) ?_
            refine x_istore (pc := 75) (L' := [(7, .int (nI (p % vN (sV σ)))), (6, .int (nI (p / vN (sV σ)))), (5, .int (nI p)), (4, .int ((bsP σ x1 p).1)), (3, .int ((bsP σ x1 p).2)), (0, .ref (t.1 0)), (1, .int x1), (2, .int x2)]) C dX12_best_75 (by decide) rfl ?_
            refine x_aload_n (pc := 77) C 5 dX12_best_77 rfl ?_
            refine x_iload (pc := 78) C 1 dX12_best_78 rfl ?_
            refine x_iload (pc := 80) C 0 dX12_best_80 rfl ?_
            refine x_callV (pc := 82) C E [.int (nI (p / vN (sV σ))), .int (nI (p % vN (sV σ)))] [] ( c_X12_canCopy t eMx.1 (a := p / vN (sV σ)) (b := p % vN (sV σ)) (by omega) (by omega)) m_X12_canCopy q30_20 xo_M rfl (by decide) (Nat.le_of_ble_eq_true rfl) dX12_best_82 rfl (k_I ?_)
            refine x_ifb_eq (pc := 85) C 131 dX12_best_85 (by decide) (fun h85 => ?_) (fun h85 => ?_)
            · refine x_iinc (pc := 131) (v := nI (p + 1)) (L' := [(5, .int (nI (p + 1))), (7, .int (nI (p % vN (sV σ)))), (6, .int (nI (p / vN (sV σ)))), (4, .int ((bsP σ x1 p).1)), (3, .int ((bsP σ x1 p).2)), (0, .ref (t.1 0)), (1, .int x1), (2, .int x2)]) C 2 dX12_best_131 rfl (nI_1 _) (by decide) rfl ?_
              refine x_goto (pc := 134) C 45 dX12_best_134 (by decide) ?_
              refine x_sub [0, 3, 4, 5, 6, 7] rfl ?_
              exact ih (p + 1) _ _ _ _ (by omega) (by rw [bsP_S hi45, if_neg (by rw [sbX_no h85, i_lt]; have := bsP_nn σ x1 p; show ¬ (_ : Int) < -1; omega)]) (by rw [bsP_S hi45, if_neg (by rw [sbX_no h85, i_lt]; have := bsP_nn σ x1 p; show ¬ (_ : Int) < -1; omega)]) rfl eMx
            · refine x_aload_n (pc := 88) C 5 dX12_best_88 rfl ?_
              refine x_iload (pc := 89) C 1 dX12_best_89 rfl ?_
              refine x_iload (pc := 91) C 0 dX12_best_91 rfl ?_
              refine x_callV (pc := 93) C E [.int (nI (p / vN (sV σ))), .int (nI (p % vN (sV σ)))] [] (c_X12_copiesAll t eMx.1 (a := p / vN (sV σ)) (b := p % vN (sV σ)) (by omega) (by omega)) m_X12_copiesAll q31_0 xo_M rfl (by first | decide | omega) (Nat.le_of_ble_eq_true rfl) dX12_best_93 rfl (fun r M93 hc93 => ?_)
              obtain ⟨rfl, hR93, hF93⟩ := hc93
              show XV κ (xP (wR t) M93) 96 _ [.int (nI (sCp (σ) (sV (σ)) (p / vN (sV σ)) (p % vN (sV σ))).2)]
              refine x_pop (pc := 96) C dX12_best_96 rfl ?_
              have hwn := (sCp_rest σ (sV σ) (p / vN (sV σ)) (p % vN (sV σ))).1
              refine x_aload_n (pc := 97) C 5 dX12_best_97 rfl ?_
              refine x_iload_n (pc := 98) C 6 dX12_best_98 rfl ?_
              refine x_callV (pc := 99) C E [.int x1] [] (c_X12_safe t hR93 (gn := 0) ((hF93 _ _ (by decide) (by decide) (by omega)).trans eMx.2.1) x1) m_X12_safe q35_2 xo_M rfl (by first | decide | omega) (Nat.le_of_ble_eq_true rfl) dX12_best_99 rfl (k_I ?_)
              refine x_eq (show _ = vSafe ((sCp (σ) (sV (σ)) (p / vN (sV σ)) (p % vN (sV σ))).1) x1 from vSafeG_0 _ _) ?_
              refine x_eq (show vSafe ((sCp (σ) (sV (σ)) (p / vN (sV σ)) (p % vN (sV σ))).1) x1 = mk (saP (sCp σ (sV σ) (p / vN (sV σ)) (p % vN (sV σ))).1 0 x1) 8 from (vSafeG_0 _ _).symm) ?_
              refine x_callS (pc := 102) C E [.int (mk (saP (sCp σ (sV σ) (p / vN (sV σ)) (p % vN (sV σ))).1 0 x1) 8)] [] (c_bits t _ (p := (saP (sCp σ (sV σ) (p / vN (sV σ)) (p % vN (sV σ))).1 0 x1)) (n := 8) (by omega)) m_X12_bitsOf q35_6 rfl (by first | decide | omega) (Nat.le_of_ble_eq_true rfl) dX12_best_102 rfl (k_I ?_)
              refine x_istore (pc := 105) (L' := [(8, .int (nI (cnt (saP (sCp σ (sV σ) (p / vN (sV σ)) (p % vN (sV σ))).1 0 x1) 8))), (7, .int (nI (p % vN (sV σ)))), (6, .int (nI (p / vN (sV σ)))), (5, .int (nI p)), (4, .int ((bsP σ x1 p).1)), (3, .int ((bsP σ x1 p).2)), (0, .ref (t.1 0)), (1, .int x1), (2, .int x2)]) C dX12_best_105 (by decide) rfl ?_
              refine x_aload_n (pc := 107) C 6 dX12_best_107 rfl ?_
              refine x_iconst (pc := 108) (v := (nI 0)) C dX12_best_108 (by decide) ?_
              refine x_callV (pc := 109) C E [.int (nI 0)] [] (c_X12_laysBack t _ (L := 0) (by omega)) m_X12_laysBack q36_23 xo_M rfl (by first | decide | omega) (Nat.le_of_ble_eq_true rfl) dX12_best_109 rfl (fun r M109 hc109 => ?_)
              obtain ⟨rfl, hL109⟩ := hc109
              obtain ⟨hB109, hZ109⟩ := rr_back h hK39 (eMx.2.2.tr (FrK.c hF93)) hL109
              show XV κ (xP (wR t) M109) 112 _ []
              refine x_iload (pc := 112) C 0 dX12_best_112 rfl ?_
              refine x_iload_n (pc := 114) C 5 dX12_best_114 rfl ?_
              refine x_icmp_le (pc := 115) C 131 dX12_best_115 (by decide) (fun h115 => ?_) (fun h115 => ?_)
              · refine x_iinc (pc := 131) (v := nI (p + 1)) (L' := [(5, .int (nI (p + 1))), (8, .int (nI (cnt (saP (sCp σ (sV σ) (p / vN (sV σ)) (p % vN (sV σ))).1 0 x1) 8))), (7, .int (nI (p % vN (sV σ)))), (6, .int (nI (p / vN (sV σ)))), (4, .int ((bsP σ x1 p).1)), (3, .int ((bsP σ x1 p).2)), (0, .ref (t.1 0)), (1, .int x1), (2, .int x2)]) C 3 dX12_best_131 rfl (nI_1 _) (by decide) rfl ?_
                refine x_goto (pc := 134) C 45 dX12_best_134 (by decide) ?_
                refine x_sub [0, 4, 5, 6, 7, 8] rfl ?_
                exact ih (p + 1) _ _ _ _ (by omega) (by rw [bsP_S hi45, if_neg (show ¬ (bsP σ x1 p).2 < sbX σ (p / vN (sV σ)) (p % vN (sV σ)) x1 from (by rw [sbX_yes h85]; exact Int32.not_lt.mpr h115))]) (by rw [bsP_S hi45, if_neg (show ¬ (bsP σ x1 p).2 < sbX σ (p / vN (sV σ)) (p % vN (sV σ)) x1 from (by rw [sbX_yes h85]; exact Int32.not_lt.mpr h115))]) rfl ⟨hB109, ((hZ109 _ _ (by decide) (by decide) (by omega) (by omega)).trans hg), lb_fr (eMx.2.2.tr (FrK.c hF93)) hL109⟩
              · refine x_bipush (pc := 118) (v := 10) C dX12_best_118 rfl ?_
                refine x_iload (pc := 120) C 2 dX12_best_120 rfl ?_
                refine x_imul (pc := 122) C dX12_best_122 ?_
                refine x_iload (pc := 123) C 1 dX12_best_123 rfl ?_
                refine x_iadd (pc := 125) C dX12_best_125 ?_
                refine x_istore (pc := 126) (L' := [(4, .int ((10 * (nI (p / vN (sV σ)))) + (nI (p % vN (sV σ))))), (8, .int (nI (cnt (saP (sCp σ (sV σ) (p / vN (sV σ)) (p % vN (sV σ))).1 0 x1) 8))), (7, .int (nI (p % vN (sV σ)))), (6, .int (nI (p / vN (sV σ)))), (5, .int (nI p)), (3, .int ((bsP σ x1 p).2)), (0, .ref (t.1 0)), (1, .int x1), (2, .int x2)]) C dX12_best_126 (by decide) rfl ?_
                refine x_iload (pc := 128) C 1 dX12_best_128 rfl ?_
                refine x_istore_n (pc := 130) (L' := [(3, .int (nI (cnt (saP (sCp σ (sV σ) (p / vN (sV σ)) (p % vN (sV σ))).1 0 x1) 8))), (4, .int ((10 * (nI (p / vN (sV σ)))) + (nI (p % vN (sV σ))))), (8, .int (nI (cnt (saP (sCp σ (sV σ) (p / vN (sV σ)) (p % vN (sV σ))).1 0 x1) 8))), (7, .int (nI (p % vN (sV σ)))), (6, .int (nI (p / vN (sV σ)))), (5, .int (nI p)), (0, .ref (t.1 0)), (1, .int x1), (2, .int x2)]) C dX12_best_130 (by decide) rfl ?_
                refine x_iinc (pc := 131) (v := nI (p + 1)) (L' := [(5, .int (nI (p + 1))), (3, .int (nI (cnt (saP (sCp σ (sV σ) (p / vN (sV σ)) (p % vN (sV σ))).1 0 x1) 8))), (4, .int ((10 * (nI (p / vN (sV σ)))) + (nI (p % vN (sV σ))))), (8, .int (nI (cnt (saP (sCp σ (sV σ) (p / vN (sV σ)) (p % vN (sV σ))).1 0 x1) 8))), (7, .int (nI (p % vN (sV σ)))), (6, .int (nI (p / vN (sV σ)))), (0, .ref (t.1 0)), (1, .int x1), (2, .int x2)]) C 5 dX12_best_131 rfl (nI_1 _) (by decide) rfl ?_
                refine x_goto (pc := 134) C 45 dX12_best_134 (by decide) ?_
                refine x_sub [0, 2, 1, 6, 7, 8] rfl ?_
                exact ih (p + 1) _ _ _ _ (by omega) (by rw [bsP_S hi45, if_pos (show (bsP σ x1 p).2 < sbX σ (p / vN (sV σ)) (p % vN (sV σ)) x1 from (by rw [sbX_yes h85]; exact Int32.not_le.mp h115))] <;> first | rfl | exact (sbX_yes h85).symm) (by rw [bsP_S hi45, if_pos (show (bsP σ x1 p).2 < sbX σ (p / vN (sV σ)) (p % vN (sV σ)) x1 from (by rw [sbX_yes h85]; exact Int32.not_le.mp h115))] <;> first | rfl | exact (sbX_yes h85).symm) rfl ⟨hB109, ((hZ109 _ _ (by decide) (by decide) (by omega) (by omega)).trans hg), lb_fr (eMx.2.2.tr (FrK.c hF93)) hL109⟩
      refine x_sub [0, 1, 2, 3, 4, 5] rfl ?_
      exact loop45 (vN (sV σ) * vN (sV σ)) 0 _ _ _ M39 (by omega) (by rw [bsP_0]) (by rw [bsP_0]) rfl ⟨hR39, ((hK39.2 _ _ (by omega)).trans hg), FrK.rf⟩
    · refine x_bipush (pc := 22) (v := (-2)) C dX12_best_22 rfl ?_
      exact x_iret (pc := 24) C X dX12_best_24 (faq (by
            unfold a_best
            repeat (first | with_reducible rfl | (refine (if_pos ?_).trans ?_; ((try simp only [inB_t, inB_f, i_lt, i_le, i_eq, ne_eq, Bool.not_eq_true, Bool.not_eq_false, hpB, decide_eq_true_eq, decide_eq_false_iff_not, li_0, li_1, li_2, li_3, li_4, li_5, li_6, li_7, li_8, li_9, li_10, li_20, li_40, li_99, li_100, li_255, li_899, li_999, li_m1, li_m2, li_m3, li_m4, li_m11, li_m12, li_m13, li_m14, li_m100] at h9 h19 ⊢) <;> omega)) | (refine (if_neg ?_).trans ?_; ((try simp only [inB_t, inB_f, i_lt, i_le, i_eq, ne_eq, Bool.not_eq_true, Bool.not_eq_false, hpB, decide_eq_true_eq, decide_eq_false_iff_not, li_0, li_1, li_2, li_3, li_4, li_5, li_6, li_7, li_8, li_9, li_10, li_20, li_40, li_99, li_100, li_255, li_899, li_999, li_m1, li_m2, li_m3, li_m4, li_m11, li_m12, li_m13, li_m14, li_m100] at h9 h19 ⊢) <;> omega)) | fail)
            all_goals (first | with_reducible rfl | (exfalso; ((try simp only [inB_t, inB_f, i_lt, i_le, i_eq, ne_eq, Bool.not_eq_true, Bool.not_eq_false, hpB, decide_eq_true_eq, decide_eq_false_iff_not, li_0, li_1, li_2, li_3, li_4, li_5, li_6, li_7, li_8, li_9, li_10, li_20, li_40, li_99, li_100, li_255, li_899, li_999, li_m1, li_m2, li_m3, li_m4, li_m11, li_m12, li_m13, li_m14, li_m100] at h9 h19 ⊢) <;> omega)))) h hg)

