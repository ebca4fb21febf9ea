/-! one thing of a disk, or the rule, laid anew for a look -/
def sKd (σ : SV) (d k : Nat) : SV := setK (setV σ (vKin (sV σ) d k)) ((sK σ).map (fun u => vKin u d k))
section TEL
variable {σ : SV} {M B : MM} {d k : Nat}
theorem rr_kin0 (h : RR σ M) (hd : d < vN (sV σ)) : RR σ (mu M 4 d (nI (vK (sV σ) d))) := rr_frame h (fun a b _ => by
  rw [mu_at]
  by_cases g : a = 4 ∧ b = d
  · rw [if_pos g, g.1, g.2]; exact (rr_kd h hd).symm
  · rw [if_neg g])
theorem rr_num0 (h : RR σ M) (hd : d < vN (sV σ)) : RR σ (mu M 5 (2 * d) (vU (sV σ) d)) := rr_frame h (fun a b _ => by
  rw [mu_at]
  by_cases g : a = 5 ∧ b = 2 * d
  · rw [if_pos g, g.1, g.2]; exact (rr_num h hd).symm
  · rw [if_neg g])
theorem rr_rul0 (h : RR σ M) : RR σ (mu M 0 4 (nI (vR (sV σ)))) := rr_frame h (fun a b _ => by
  rw [mu_at]
  by_cases g : a = 0 ∧ b = 4
  · rw [if_pos g, g.1, g.2]; exact (rr_rule h).symm
  · rw [if_neg g])
theorem rr_kinS (h : RR σ (mu B 4 d (nI (vK (sV σ) d)))) (hk : k < 6) : RR (sKd σ d k) (mu B 4 d (nI k)) := by
  obtain ⟨⟨a1, a2, a3, a4, a5⟩, b, c, dd, e, f, g⟩ := h
  obtain ⟨b1, b2, b3, b4, b5⟩ := b
  refine ⟨⟨a1, a2, a3, fun u hu => ?_, a5⟩, ⟨b1, b2, b3, b4, fun x hx => ?_⟩, c, ⟨fun hn => ?_, fun u hu => ?_⟩, fun q hq => trf_cg (e q hq) (fun b _ => rfl) rfl, f, fun s hs => srf_cg (g s hs) (fun a b h1 h2 => by rw [mu_n _ _ _ _ (by omega), mu_n _ _ _ _ (by omega)])⟩
  · have hu' : (sK σ).map (fun u => vKin u d k) = some u := hu
    cases h0 : sK σ with
    | none => rw [h0] at hu'; cases hu'
    | some u0 =>
      rw [h0] at hu'
      cases hu'
      obtain ⟨c1, c2, c3⟩ := a4 u0 h0
      refine ⟨c1, c2, fun y hy => ?_⟩
      show (if y = d then k else vK u0 y) = if y = d then k else vK (sV σ) y
      rw [c3 y hy]
  · obtain ⟨c1, c2, c3, c4, c5⟩ := b5 x hx
    refine ⟨?_, ?_, c3, c4, c5⟩
    · show _ = nI (if x = d then k else vK (sV σ) x)
      by_cases q : x = d
      · rw [if_pos q, q, mu_s]
      · rw [if_neg q, mu_k _ _ _ _ q]; rw [mu_k _ _ _ _ q] at c1; exact c1
    · show (if x = d then k else vK (sV σ) x) < 6
      by_cases q : x = d
      · rw [if_pos q]; exact hk
      · rw [if_neg q]; exact c2
  · have hn' : (sK σ).map (fun u => vKin u d k) = none := hn
    cases h0 : sK σ with
    | none => exact dd.1 h0
    | some u0 => rw [h0] at hn'; cases hn'
  · have hu' : (sK σ).map (fun u => vKin u d k) = some u := hu
    cases h0 : sK σ with
    | none => rw [h0] at hu'; cases hu'
    | some u0 =>
      rw [h0] at hu'
      cases hu'
      obtain ⟨c1, c2, c3, c4⟩ := dd.2 u0 h0
      refine ⟨c1, c2, c3, fun y hy => ?_⟩
      obtain ⟨d1, d2, d3, d4⟩ := c4 y hy
      refine ⟨d1, d2, ?_, d4⟩
      show (if y = d then k else vK u0 y) < 6
      by_cases q : y = d
      · rw [if_pos q]; exact hk
      · rw [if_neg q]; exact d3
theorem rr_kinR (h0 : RR σ M) (hd : d < vN (sV σ)) (h : RR (sKd σ d k) B) : RR σ (mu B 4 d (nI (vK (sV σ) d))) := by
  obtain ⟨-, b, c, dd, e, f, g⟩ := h
  obtain ⟨b1, b2, b3, b4, b5⟩ := b
  refine ⟨h0.1, ⟨b1, b2, b3, b4, fun x hx => ?_⟩, c, ⟨fun hn => ?_, fun u hu => ?_⟩, fun q hq => trf_cg (e q hq) (fun b _ => rfl) rfl, f, fun s hs => srf_cg (g s hs) (fun a b h1 h2 => by rw [mu_n _ _ _ _ (by omega)])⟩
  · obtain ⟨c1, c2, c3, c4, c5⟩ := b5 x hx
    refine ⟨?_, rr_k6 h0 hx, c3, c4, c5⟩
    by_cases q : x = d
    · rw [q, mu_s]
    · rw [mu_k _ _ _ _ q]
      have c1' : B 4 x = nI (if x = d then k else vK (sV σ) x) := c1
      rw [if_neg q] at c1'
      exact c1'
  · exact dd.1 (show (sK σ).map (fun u => vKin u d k) = none by rw [hn]; rfl)
  · obtain ⟨c1, c2, c3, c4⟩ := dd.2 (vKin u d k) (show (sK σ).map (fun u => vKin u d k) = some (vKin u d k) by rw [hu]; rfl)
    refine ⟨c1, c2, c3, fun y hy => ?_⟩
    obtain ⟨d1, d2, d3, d4⟩ := c4 y hy
    exact ⟨d1, d2, ((h0.2.2.2.1.2 u hu).2.2.2 y hy).2.2.1, d4⟩
theorem rr_numS (h : RR σ (mu B 5 (2 * d) (vU (sV σ) d))) (hd : d < vN (sV σ)) (x : Int32) : RR (setV σ (vNum (sV σ) d x)) (mu B 5 (2 * d) x) := rr_frame (rr_num_ h hd x) (fun a b _ => by
  rw [mu_at, mu_at]
  by_cases g : a = 5 ∧ b = 2 * d
  · rw [if_pos g, if_pos g]
  · rw [if_neg g, if_neg g, mu_at, if_neg g])
theorem vNum_b (v : WV) (d : Nat) (x : Int32) : vNum (vNum v d x) d (vU v d) = v := by
  have e : (fun k => if k = d then vU v d else if k = d then x else vU v k) = vU v := funext fun k => by
    by_cases g : k = d
    · rw [if_pos g, g]
    · rw [if_neg g, if_neg g]
  show (vD v, vR v, vN v, vK v, (fun k => if k = d then vU v d else if k = d then x else vU v k), v.2.2.2.2.2) = v
  rw [e]
theorem rr_numR {x : Int32} (h : RR (setV σ (vNum (sV σ) d x)) B) (hd : d < vN (sV σ)) : RR σ (mu B 5 (2 * d) (vU (sV σ) d)) := by
  have e := rr_num_ h (d := d) hd (vU (sV σ) d)
  rw [show setV (setV σ (vNum (sV σ) d x)) (vNum (sV (setV σ (vNum (sV σ) d x))) d (vU (sV σ) d)) = σ from by
    show setV σ (vNum (vNum (sV σ) d x) d (vU (sV σ) d)) = σ
    rw [vNum_b]; rfl] at e
  exact e
theorem rr_rulS (h : RR σ (mu B 0 4 (nI (vR (sV σ))))) (hk : k < sN σ) : RR (setV σ (vRul (sV σ) k)) (mu B 0 4 (nI k)) := rr_frame (rr_rul_ h hk) (fun a b _ => by
  rw [mu_at, mu_at]
  by_cases g : a = 0 ∧ b = 4
  · rw [if_pos g, if_pos g]
  · rw [if_neg g, if_neg g, mu_at, if_neg g])
theorem rr_rulR (h0 : RR σ M) (h : RR (setV σ (vRul (sV σ) k)) B) : RR σ (mu B 0 4 (nI (vR (sV σ)))) := rr_rul_ h (rr_q h0)
theorem vCp_rul (v : WV) (a b q : Nat) (Ev : (Nat → Int32) → Int32) : ∀ n, vCp (vRul v q) a b Ev n = (vRul (vCp v a b Ev n).1 q, (vCp v a b Ev n).2) := by
  intro n
  induction n with
  | zero => rfl
  | succ n ih =>
    rw [vCp, vCp, ih]
    show (if vCpC (vCp v a b Ev n).1 a b n Ev = true then (vRul (vCpD (vCp v a b Ev n).1 a b n) q, (vCp v a b Ev n).2 + 1) else (vRul (vCp v a b Ev n).1 q, (vCp v a b Ev n).2)) = _
    by_cases g : vCpC (vCp v a b Ev n).1 a b n Ev = true
    · rw [if_pos g, if_pos g]
    · rw [if_neg g, if_neg g]
theorem ctX_rul (σ : SV) (v : WV) (q s a d : Nat) : ctX σ q (vRul v q) s a d = ctX σ q v s a d := by
  have e : (sCq σ q (vRul v q) a d).1 = vRul (sCq σ q v a d).1 q := by
    rw [← sCq_eq, ← sCq_eq, vCp_rul]
  unfold ctX
  rw [e]
  rfl
end TEL
set_option maxRecDepth 100000 in
set_option maxHeartbeats 800000 in
theorem c_X12_tells (t : CT) {σ : SV} {M : MM} (h : RR σ M) (hg : M 0 28 = 0) (x1 x2 x3 x4 : Int32)  : XMet (wR t) yX12_tells cX12_tells 11 (some .int) 68 [.ref (t.1 0), .int x1, .int x2, .int x3, .int x4] M (oQ (σ, a_tells σ x1 x2 x3 x4)) := by
  refine x_met RX12 (by decide) rfl (Nat.le_of_ble_eq_true rfl) (fun κ C X E => ?_)
  refine x_L (L' := [(0, .ref (t.1 0)), (1, .int x1), (2, .int x2), (3, .int x3), (4, .int x4)]) rfl ?_
  have hn6 := rr_n6 h
  have hN6 := h.1.1
  have hq := rr_q h
  have hB := h.1.2.1
  refine x_iload_n (pc := 0) C 1 dX12_tells_0 rfl ?_
  refine x_callS (pc := 1) C E [.int x1] [] (c_X12_isSheet t _ _) m_X12_isSheet q40_18 rfl (by decide) (Nat.le_of_ble_eq_true rfl) dX12_tells_1 rfl (k_I ?_)
  refine x_ifb_eq (pc := 4) C 28 dX12_tells_4 (by decide) (fun h4 => ?_) (fun h4 => ?_)
  · refine x_bipush (pc := 28) (v := (-2)) C dX12_tells_28 rfl ?_
    exact x_iret (pc := 30) C X dX12_tells_30 (faq (by
          unfold a_tells
          repeat (first | with_reducible rfl | (refine (if_pos ?_).trans ?_; ((try simp only [inB_t, inB_f, i_lt, i_le, i_eq, ne_eq, Bool.not_eq_true, Bool.not_eq_false, hpB, decide_eq_true_eq, decide_eq_false_iff_not, li_0, li_1, li_2, li_3, li_4, li_5, li_6, li_7, li_8, li_9, li_10, li_20, li_40, li_99, li_100, li_255, li_899, li_999, li_m1, li_m2, li_m3, li_m4, li_m11, li_m12, li_m13, li_m14, li_m100] at h4 ⊢) <;> omega)) | (refine (if_neg ?_).trans ?_; ((try simp only [inB_t, inB_f, i_lt, i_le, i_eq, ne_eq, Bool.not_eq_true, Bool.not_eq_false, hpB, decide_eq_true_eq, decide_eq_false_iff_not, li_0, li_1, li_2, li_3, li_4, li_5, li_6, li_7, li_8, li_9, li_10, li_20, li_40, li_99, li_100, li_255, li_899, li_999, li_m1, li_m2, li_m3, li_m4, li_m11, li_m12, li_m13, li_m14, li_m100] at h4 ⊢) <;> omega)) | fail)
          all_goals (first | with_reducible rfl | (exfalso; ((try simp only [inB_t, inB_f, i_lt, i_le, i_eq, ne_eq, Bool.not_eq_true, Bool.not_eq_false, hpB, decide_eq_true_eq, decide_eq_false_iff_not, li_0, li_1, li_2, li_3, li_4, li_5, li_6, li_7, li_8, li_9, li_10, li_20, li_40, li_99, li_100, li_255, li_899, li_999, li_m1, li_m2, li_m3, li_m4, li_m11, li_m12, li_m13, li_m14, li_m100] at h4 ⊢) <;> omega)))) h hg)
  · obtain ⟨s, hs, es⟩ := inB_of h4 (by omega)
    have hts := nI_toInt (n := s) (by omega)
    have hos := oN_nI (n := s) (by omega)
    subst es
    refine x_aload_n (pc := 7) C 0 dX12_tells_7 rfl ?_
    refine x_iload_n (pc := 8) C 2 dX12_tells_8 rfl ?_
    refine x_callV (pc := 9) C E [.int x2] [] ( c_X12_isDisk t h _) m_X12_isDisk q13_9 xo_M rfl (by decide) (Nat.le_of_ble_eq_true rfl) dX12_tells_9 rfl (k_I ?_)
    refine x_ifb_eq (pc := 12) C 28 dX12_tells_12 (by decide) (fun h12 => ?_) (fun h12 => ?_)
    · refine x_bipush (pc := 28) (v := (-2)) C dX12_tells_28 rfl ?_
      exact x_iret (pc := 30) C X dX12_tells_30 (faq (by
            unfold a_tells
            simp only [hos]
            repeat (first | with_reducible rfl | (refine (if_pos ?_).trans ?_; ((try simp only [inB_t, inB_f, i_lt, i_le, i_eq, ne_eq, Bool.not_eq_true, Bool.not_eq_false, hpB, decide_eq_true_eq, decide_eq_false_iff_not, li_0, li_1, li_2, li_3, li_4, li_5, li_6, li_7, li_8, li_9, li_10, li_20, li_40, li_99, li_100, li_255, li_899, li_999, li_m1, li_m2, li_m3, li_m4, li_m11, li_m12, li_m13, li_m14, li_m100] at h4 hts h12 ⊢) <;> omega)) | (refine (if_neg ?_).trans ?_; ((try simp only [inB_t, inB_f, i_lt, i_le, i_eq, ne_eq, Bool.not_eq_true, Bool.not_eq_false, hpB, decide_eq_true_eq, decide_eq_false_iff_not, li_0, li_1, li_2, li_3, li_4, li_5, li_6, li_7, li_8, li_9, li_10, li_20, li_40, li_99, li_100, li_255, li_899, li_999, li_m1, li_m2, li_m3, li_m4, li_m11, li_m12, li_m13, li_m14, li_m100] at h4 hts h12 ⊢) <;> omega)) | fail)
            all_goals (first | with_reducible rfl | (exfalso; ((try simp only [inB_t, inB_f, i_lt, i_le, i_eq, ne_eq, Bool.not_eq_true, Bool.not_eq_false, hpB, decide_eq_true_eq, decide_eq_false_iff_not, li_0, li_1, li_2, li_3, li_4, li_5, li_6, li_7, li_8, li_9, li_10, li_20, li_40, li_99, li_100, li_255, li_899, li_999, li_m1, li_m2, li_m3, li_m4, li_m11, li_m12, li_m13, li_m14, li_m100] at h4 hts h12 ⊢) <;> omega)))) h hg)
    · refine x_iload (pc := 15) C 4 dX12_tells_15 rfl ?_
      refine x_i2l (pc := 17) C dX12_tells_17 ?_
      refine x_lconst (pc := 18) (v := 0) C dX12_tells_18 rfl ?_
      refine x_ldc2 (pc := 19) (v := 4) C q42_9 dX12_tells_19 ?_
      refine x_callS (pc := 22) C E [.long (Int32.toInt64 x4), .long 0, .long 4] [] (c_X12_inB t _ x4 (n := 5) (by decide) (by decide)) m_X12_in q13_6 rfl (by decide) (Nat.le_of_ble_eq_true rfl) dX12_tells_22 rfl (k_I ?_)
      refine x_ifb_ne (pc := 25) C 31 dX12_tells_25 (by decide) (fun h25 => ?_) (fun h25 => ?_)
      · obtain ⟨d, hd, ed⟩ := inB_of h12 (by omega)
        have htd := nI_toInt (n := d) (by omega)
        have hod := oN_nI (n := d) (by omega)
        subst ed
        have hk9 : x4.toInt = 0 ∨ x4.toInt = 1 ∨ x4.toInt = 2 ∨ x4.toInt = 3 ∨ x4.toInt = 4 := (by ((try simp only [inB_t, inB_f, i_lt, i_le, i_eq, ne_eq, Bool.not_eq_true, Bool.not_eq_false, hpB, decide_eq_true_eq, decide_eq_false_iff_not, li_0, li_1, li_2, li_3, li_4, li_5, li_6, li_7, li_8, li_9, li_10, li_20, li_40, li_99, li_100, li_255, li_899, li_999, li_m1, li_m2, li_m3, li_m4, li_m11, li_m12, li_m13, li_m14, li_m100] at h4 hts h12 h25 htd ⊢) <;> omega))
        rcases hk9 with hk9 | hk9 | hk9 | hk9 | hk9
        · obtain rfl : x4 = 0 := i_eq.mpr hk9
          refine x_iload (pc := 31) C 4 dX12_tells_31 rfl ?_
          refine x_iconst (pc := 33) (v := 1) C dX12_tells_33 rfl ?_
          refine x_icmp_eq_f (pc := 34) C 49 dX12_tells_34 (by decide) (by decide) ?_
          refine x_iload (pc := 37) C 4 dX12_tells_37 rfl ?_
          refine x_iconst (pc := 39) (v := 2) C dX12_tells_39 rfl ?_
          refine x_icmp_eq_f (pc := 40) C 49 dX12_tells_40 (by decide) (by decide) ?_
          refine x_iload (pc := 43) C 4 dX12_tells_43 rfl ?_
          refine x_iconst (pc := 45) (v := 4) C dX12_tells_45 rfl ?_
          refine x_icmp_ne_t (pc := 46) C 53 dX12_tells_46 (by decide) (by decide) ?_
          refine x_iconst (pc := 53) (v := 0) C dX12_tells_53 rfl ?_
          refine x_istore (pc := 54) (L' := [(5, .int 0), (0, .ref (t.1 0)), (1, .int (nI s)), (2, .int (nI d)), (3, .int x3), (4, .int 0)]) C dX12_tells_54 (by decide) rfl ?_
          refine x_iload (pc := 56) C 0 dX12_tells_56 rfl ?_
          refine x_if_eq_t (pc := 58) C 77 dX12_tells_58 (by decide) (by decide) ?_
          refine x_aload_n (pc := 77) C 1 dX12_tells_77 rfl ?_
          refine g_M_isThere (pc := 78) C E q12_1 dX12_tells_78 ?_
          refine x_iload_n (pc := 81) C 2 dX12_tells_81 rfl ?_
          refine l_RisThere (pc := 82) C E (by omega) dX12_tells_82 ?_
          refine x_eq (show M 12 s = b2i (!decide ((sH (σ) s).1 = -1)) from (rr_si h (by omega))) ?_
          refine x_ifb_ne (pc := 83) C 89 dX12_tells_83 (by decide) (fun h83 => ?_) (fun h83 => ?_)
          · have hss : (sH σ s).1 ≠ -1 := fun e => by rw [decide_eq_true e] at h83; exact absurd h83 (by decide)
            have h40s := (h.1.2.2.2.2 s hs).1
            refine x_aload_n (pc := 89) C 1 dX12_tells_89 rfl ?_
            refine g_M_sheetSize (pc := 90) C E q12_3 dX12_tells_90 ?_
            refine x_iload_n (pc := 93) C 2 dX12_tells_93 rfl ?_
            refine l_RsheetSize (pc := 94) C E (by omega) dX12_tells_94 ?_
            refine x_eq (show M 14 s = nI (sH (σ) s).2.1 from (rr_sz h (by omega) hss)) ?_
            refine x_bipush (pc := 95) (v := 8) C dX12_tells_95 rfl ?_
            refine x_icmp_eq (pc := 97) C 103 dX12_tells_97 (by decide) (fun h97 => ?_) (fun h97 => ?_)
            · have h8 : (sH σ s).2.1 = 8 := (nI_eq (b := 8) (by omega) (by decide)).mp h97
              refine x_iload (pc := 103) C 5 dX12_tells_103 rfl ?_
              refine x_if_ne_f (pc := 105) C 115 dX12_tells_105 (by decide) (by decide) ?_
              refine x_aload_n (pc := 108) C 1 dX12_tells_108 rfl ?_
              refine x_iload_n (pc := 109) C 2 dX12_tells_109 rfl ?_
              refine x_iload_n (pc := 110) C 3 dX12_tells_110 rfl ?_
              refine x_callV (pc := 111) C E [.int (nI s), .int (nI d)] [] (c_X12_unlike t h hs hss h8 (d := d) (by omega)) m_X12_unlike q42_10 xo_M rfl (by first | decide | omega) (Nat.le_of_ble_eq_true rfl) dX12_tells_111 rfl (k_I ?_)
              refine x_eq (show _ = otX (sV (σ)) d σ s from rfl) ?_
              exact x_iret (pc := 114) C X dX12_tells_114 (faq (by
                    unfold a_tells
                    simp only [hos, hod]
                    refine (if_neg (by ((try simp only [inB_t, inB_f, i_lt, i_le, i_eq, ne_eq, Bool.not_eq_true, Bool.not_eq_false, hpB, decide_eq_true_eq, decide_eq_false_iff_not, li_0, li_1, li_2, li_3, li_4, li_5, li_6, li_7, li_8, li_9, li_10, li_20, li_40, li_99, li_100, li_255, li_899, li_999, li_m1, li_m2, li_m3, li_m4, li_m11, li_m12, li_m13, li_m14, li_m100] at h4 hts h12 h25 htd h83 h97 ⊢) <;> omega))).trans ?_
                    refine (if_neg (fun e => absurd e.1 (by decide))).trans ?_
                    refine (if_neg hss).trans ?_
                    refine (if_neg (fun e => e h8)).trans ?_
                    rfl) h hg)
            · have h8n : (sH σ s).2.1 ≠ 8 := fun e => h97 (by rw [e]; rfl)
              refine x_bipush (pc := 100) (v := (-2)) C dX12_tells_100 rfl ?_
              exact x_iret (pc := 102) C X dX12_tells_102 (faq (by
                    unfold a_tells
                    simp only [hos, hod]
                    refine (if_neg (by ((try simp only [inB_t, inB_f, i_lt, i_le, i_eq, ne_eq, Bool.not_eq_true, Bool.not_eq_false, hpB, decide_eq_true_eq, decide_eq_false_iff_not, li_0, li_1, li_2, li_3, li_4, li_5, li_6, li_7, li_8, li_9, li_10, li_20, li_40, li_99, li_100, li_255, li_899, li_999, li_m1, li_m2, li_m3, li_m4, li_m11, li_m12, li_m13, li_m14, li_m100] at h4 hts h12 h25 htd h83 h97 ⊢) <;> omega))).trans ?_
                    refine (if_neg (fun e => absurd e.1 (by decide))).trans ?_
                    refine (if_neg hss).trans ?_
                    exact if_pos h8n) h hg)
          · have hns : (sH σ s).1 = -1 := (by
              by_cases e : (sH σ s).1 = -1
              · exact e
              · rw [decide_eq_false e] at h83; exact absurd h83 (by decide))
            refine x_bipush (pc := 86) (v := (-11)) C dX12_tells_86 rfl ?_
            exact x_iret (pc := 88) C X dX12_tells_88 (faq (by
                  unfold a_tells
                  simp only [hos, hod]
                  refine (if_neg (by ((try simp only [inB_t, inB_f, i_lt, i_le, i_eq, ne_eq, Bool.not_eq_true, Bool.not_eq_false, hpB, decide_eq_true_eq, decide_eq_false_iff_not, li_0, li_1, li_2, li_3, li_4, li_5, li_6, li_7, li_8, li_9, li_10, li_20, li_40, li_99, li_100, li_255, li_899, li_999, li_m1, li_m2, li_m3, li_m4, li_m11, li_m12, li_m13, li_m14, li_m100] at h4 hts h12 h25 htd h83 ⊢) <;> omega))).trans ?_
                  refine (if_neg (fun e => absurd e.1 (by decide))).trans ?_
                  exact if_pos hns) h hg)
        · obtain rfl : x4 = 1 := i_eq.mpr hk9
          refine x_iload (pc := 31) C 4 dX12_tells_31 rfl ?_
          refine x_iconst (pc := 33) (v := 1) C dX12_tells_33 rfl ?_
          refine x_icmp_eq_t (pc := 34) C 49 dX12_tells_34 (by decide) (by decide) ?_
          refine x_iconst (pc := 49) (v := 1) C dX12_tells_49 rfl ?_
          refine x_goto (pc := 50) C 54 dX12_tells_50 (by decide) ?_
          refine x_istore (pc := 54) (L' := [(5, .int 1), (0, .ref (t.1 0)), (1, .int (nI s)), (2, .int (nI d)), (3, .int x3), (4, .int 1)]) C dX12_tells_54 (by decide) rfl ?_
          refine x_iload (pc := 56) C 0 dX12_tells_56 rfl ?_
          refine x_if_eq_f (pc := 58) C 77 dX12_tells_58 (by decide) (by decide) ?_
          refine x_aload_n (pc := 61) C 1 dX12_tells_61 rfl ?_
          refine x_iload_n (pc := 62) C 4 dX12_tells_62 rfl ?_
          refine x_callV (pc := 63) C E [.int x3] [] ( c_X12_isDisk t h _) m_X12_isDisk q13_9 xo_M rfl (by decide) (Nat.le_of_ble_eq_true rfl) dX12_tells_63 rfl (k_I ?_)
          refine x_ifb_eq (pc := 66) C 74 dX12_tells_66 (by decide) (fun h66 => ?_) (fun h66 => ?_)
          · refine x_bipush (pc := 74) (v := (-2)) C dX12_tells_74 rfl ?_
            exact x_iret (pc := 76) C X dX12_tells_76 (faq (by
                  unfold a_tells
                  simp only [hos, hod]
                  refine (if_neg (by ((try simp only [inB_t, inB_f, i_lt, i_le, i_eq, ne_eq, Bool.not_eq_true, Bool.not_eq_false, hpB, decide_eq_true_eq, decide_eq_false_iff_not, li_0, li_1, li_2, li_3, li_4, li_5, li_6, li_7, li_8, li_9, li_10, li_20, li_40, li_99, li_100, li_255, li_899, li_999, li_m1, li_m2, li_m3, li_m4, li_m11, li_m12, li_m13, li_m14, li_m100] at h4 hts h12 h25 htd h66 ⊢) <;> omega))).trans ?_
                  exact if_pos ⟨by decide, two_f (by ((try simp only [inB_t, inB_f, i_lt, i_le, i_eq, ne_eq, Bool.not_eq_true, Bool.not_eq_false, hpB, decide_eq_true_eq, decide_eq_false_iff_not, li_0, li_1, li_2, li_3, li_4, li_5, li_6, li_7, li_8, li_9, li_10, li_20, li_40, li_99, li_100, li_255, li_899, li_999, li_m1, li_m2, li_m3, li_m4, li_m11, li_m12, li_m13, li_m14, li_m100] at h4 hts h12 h25 htd h66 ⊢) <;> omega))⟩) h hg)
          · refine x_iload_n (pc := 69) C 4 dX12_tells_69 rfl ?_
            refine x_iload_n (pc := 70) C 3 dX12_tells_70 rfl ?_
            refine x_icmp_ne (pc := 71) C 77 dX12_tells_71 (by decide) (fun h71 => ?_) (fun h71 => ?_)
            · obtain ⟨a, ha, ea⟩ := inB_of h66 (by omega)
              have hta := nI_toInt (n := a) (by omega)
              have hoa := oN_nI (n := a) (by omega)
              subst ea
              have had : ¬ a = d := fun e => h71 (by rw [e])
              have hto := two_t hn6 ha hd h71
              refine x_aload_n (pc := 77) C 1 dX12_tells_77 rfl ?_
              refine g_M_isThere (pc := 78) C E q12_1 dX12_tells_78 ?_
              refine x_iload_n (pc := 81) C 2 dX12_tells_81 rfl ?_
              refine l_RisThere (pc := 82) C E (by omega) dX12_tells_82 ?_
              refine x_eq (show M 12 s = b2i (!decide ((sH (σ) s).1 = -1)) from (rr_si h (by omega))) ?_
              refine x_ifb_ne (pc := 83) C 89 dX12_tells_83 (by decide) (fun h83 => ?_) (fun h83 => ?_)
              · have hss : (sH σ s).1 ≠ -1 := fun e => by rw [decide_eq_true e] at h83; exact absurd h83 (by decide)
                have h40s := (h.1.2.2.2.2 s hs).1
                refine x_aload_n (pc := 89) C 1 dX12_tells_89 rfl ?_
                refine g_M_sheetSize (pc := 90) C E q12_3 dX12_tells_90 ?_
                refine x_iload_n (pc := 93) C 2 dX12_tells_93 rfl ?_
                refine l_RsheetSize (pc := 94) C E (by omega) dX12_tells_94 ?_
                refine x_eq (show M 14 s = nI (sH (σ) s).2.1 from (rr_sz h (by omega) hss)) ?_
                refine x_bipush (pc := 95) (v := 8) C dX12_tells_95 rfl ?_
                refine x_icmp_eq (pc := 97) C 103 dX12_tells_97 (by decide) (fun h97 => ?_) (fun h97 => ?_)
                · have h8 : (sH σ s).2.1 = 8 := (nI_eq (b := 8) (by omega) (by decide)).mp h97
                  refine x_iload (pc := 103) C 5 dX12_tells_103 rfl ?_
                  refine x_if_ne_t (pc := 105) C 115 dX12_tells_105 (by decide) (by decide) ?_
                  refine x_iconst (pc := 115) (v := 0) C dX12_tells_115 rfl ?_
                  refine x_istore (pc := 116) (L' := [(6, .int 0), (5, .int 1), (0, .ref (t.1 0)), (1, .int (nI s)), (2, .int (nI d)), (3, .int (nI a)), (4, .int 1)]) C dX12_tells_116 (by decide) rfl ?_
                  refine x_iload (pc := 118) C 6 dX12_tells_118 rfl ?_
                  refine x_iconst (pc := 120) (v := 3) C dX12_tells_120 rfl ?_
                  refine x_icmp_ne_t (pc := 121) C 169 dX12_tells_121 (by decide) (by decide) ?_
                  refine x_iload (pc := 169) C 6 dX12_tells_169 rfl ?_
                  refine x_iconst (pc := 171) (v := 1) C dX12_tells_171 rfl ?_
                  refine x_icmp_ne_f (pc := 172) C 179 dX12_tells_172 (by decide) (by decide) ?_
                  refine x_iconst (pc := 175) (v := 3) C dX12_tells_175 rfl ?_
                  refine x_goto (pc := 176) C 190 dX12_tells_176 (by decide) ?_
                  refine x_istore (pc := 190) (L' := [(7, .int 3), (6, .int 0), (5, .int 1), (0, .ref (t.1 0)), (1, .int (nI s)), (2, .int (nI d)), (3, .int (nI a)), (4, .int 1)]) C dX12_tells_190 (by decide) rfl ?_
                  refine x_iload (pc := 192) C 0 dX12_tells_192 rfl ?_
                  refine x_iconst (pc := 194) (v := 4) C dX12_tells_194 rfl ?_
                  refine x_icmp_ne_t (pc := 195) C 205 dX12_tells_195 (by decide) (by decide) ?_
                  refine x_aload_n (pc := 205) C 3 dX12_tells_205 rfl ?_
                  refine x_iload_n (pc := 206) C 5 dX12_tells_206 rfl ?_
                  refine x_iload (pc := 207) C 0 dX12_tells_207 rfl ?_
                  refine x_callV (pc := 209) C E [.int (nI d), .int 3] [] (c_X12_told t h hg (nI d) 3) m_X12_told q13_14 xo_M rfl (by first | decide | omega) (Nat.le_of_ble_eq_true rfl) dX12_tells_209 rfl (fun r M209 hc209 => ?_)
                  obtain ⟨rfl, hS209⟩ := hc209
                  show XV κ (xP (wR t) M209) 212 _ [.int (a_told (σ) (nI d) 3)]
                  refine x_eq (show a_told (σ) (nI d) 3 = nI (vK (sV (σ)) d) from (told_k (by omega) (by omega)).2.2) ?_
                  refine x_istore (pc := 212) (L' := [(8, .int (nI (vK (sV (σ)) d))), (7, .int 3), (6, .int 0), (5, .int 1), (0, .ref (t.1 0)), (1, .int (nI s)), (2, .int (nI d)), (3, .int (nI a)), (4, .int 1)]) C dX12_tells_212 (by decide) rfl ?_
                  refine x_iload (pc := 214) C 8 dX12_tells_214 rfl ?_
                  refine x_iconst (pc := 216) (v := 1) C dX12_tells_216 rfl ?_
                  refine x_icmp_ne_f (pc := 217) C 225 dX12_tells_217 (by decide) (by decide) ?_
                  refine x_bipush (pc := 220) (v := (nI 6)) C dX12_tells_220 (by decide) ?_
                  refine x_goto (pc := 222) C 240 dX12_tells_222 (by decide) ?_
                  refine x_istore (pc := 240) (L' := [(9, .int (nI 6)), (8, .int (nI (vK (sV (σ)) d))), (7, .int 3), (6, .int 0), (5, .int 1), (0, .ref (t.1 0)), (1, .int (nI s)), (2, .int (nI d)), (3, .int (nI a)), (4, .int 1)]) C dX12_tells_240 (by decide) rfl ?_
                  refine x_iconst (pc := 242) (v := (nI 0)) C dX12_tells_242 (by decide) ?_
                  refine x_istore (pc := 243) (L' := [(10, .int (nI 0)), (9, .int (nI 6)), (8, .int (nI (vK (sV (σ)) d))), (7, .int 3), (6, .int 0), (5, .int 1), (0, .ref (t.1 0)), (1, .int (nI s)), (2, .int (nI d)), (3, .int (nI a)), (4, .int 1)]) C dX12_tells_243 (by decide) rfl ?_
                  have loop245 : ∀ (k v : Nat) (x : Int32) (y : Int32) (Mx : MM) , v + k = 6 → x = mk (ktX σ s a d) v → y = nI v → (RR σ (mu Mx 4 d (nI (vK (sV σ) d))) ∧ Mx 0 28 = 0) → XV κ (xP (wR t) Mx) 245 [(10, .int y), (9, .int (nI 6)), (8, .int (nI (vK (sV (σ)) d))), (7, .int 3), (6, .int x), (5, .int 1), (0, .ref (t.1 0)), (1, .int (nI s)), (2, .int (nI d)), (3, .int (nI a)), (4, .int 1)] [] := by
                    intro k
                    induction k with
                      | zero =>
                        intro v x y Mx  hcnt ex ey eMx
                        subst ex
                        subst ey
                        obtain rfl : 6 = v := by omega
                        refine x_iload (pc := 245) C 0 dX12_tells_245 rfl ?_
                        refine x_iload (pc := 247) C 1 dX12_tells_247 rfl ?_
                        refine x_icmp_ge_t (pc := 249) C 290 dX12_tells_249 (by decide) (nI_le (by omega) (by omega)) ?_
                        refine x_aload_n (pc := 290) C 6 dX12_tells_290 rfl ?_
                        refine x_iload (pc := 291) C 3 dX12_tells_291 rfl ?_
                        refine x_iload_n (pc := 293) C 8 dX12_tells_293 rfl ?_
                        refine x_iload (pc := 294) C 2 dX12_tells_294 rfl ?_
                        refine x_callV (pc := 296) C E [.int 3, .int (nI d), .int (nI (vK (sV (σ)) d))] [] (c_X12_lays3 t _ (d := d) (by omega) (nI (vK (sV (σ)) d))) m_X12_lays q18_14 xo_M rfl (by first | decide | omega) (Nat.le_of_ble_eq_true rfl) dX12_tells_296 rfl (k_U ?_)
                        refine x_iload (pc := 299) C 4 dX12_tells_299 rfl ?_
                        exact x_iret (pc := 301) C X dX12_tells_301 (faq (by
                              unfold a_tells
                              simp only [hos, hod, hoa]
                              refine (if_neg (by ((try simp only [inB_t, inB_f, i_lt, i_le, i_eq, ne_eq, Bool.not_eq_true, Bool.not_eq_false, hpB, decide_eq_true_eq, decide_eq_false_iff_not, li_0, li_1, li_2, li_3, li_4, li_5, li_6, li_7, li_8, li_9, li_10, li_20, li_40, li_99, li_100, li_255, li_899, li_999, li_m1, li_m2, li_m3, li_m4, li_m11, li_m12, li_m13, li_m14, li_m100] at h4 hts h12 h25 htd h66 h71 hta h83 h97 ⊢) <;> omega))).trans ?_
                              refine (if_neg (fun e => by rw [hto] at e; exact absurd e.2 (by decide))).trans ?_
                              refine (if_neg hss).trans ?_
                              refine (if_neg (fun e => e h8)).trans ?_
                              rfl) eMx.1 ((congrFun (mu_n _ _ _ _ (by decide)) _).trans eMx.2))
                      | succ k ih =>
                        intro v x y Mx  hcnt ex ey eMx
                        subst ex
                        subst ey
                        have hi245 : v < 6 := by omega
                        refine x_iload (pc := 245) C 0 dX12_tells_245 rfl ?_
                        refine x_iload (pc := 247) C 1 dX12_tells_247 rfl ?_
                        refine x_icmp_ge_f (pc := 249) C 290 dX12_tells_249 (by decide) (nI_ge (by omega) (by omega)) ?_
                        refine x_aload_n (pc := 252) C 6 dX12_tells_252 rfl ?_
                        refine x_iload (pc := 253) C 3 dX12_tells_253 rfl ?_
                        refine x_iload_n (pc := 255) C 8 dX12_tells_255 rfl ?_
                        refine x_iload (pc := 256) C 0 dX12_tells_256 rfl ?_
                        refine x_callV (pc := 258) C E [.int 3, .int (nI d), .int (nI v)] [] (c_X12_lays3 t _ (d := d) (by omega) (nI v)) m_X12_lays q18_14 xo_M rfl (by first | decide | omega) (Nat.le_of_ble_eq_true rfl) dX12_tells_258 rfl (k_U ?_)
                        refine x_iload (pc := 261) C 4 dX12_tells_261 rfl ?_
                        refine x_aload_n (pc := 263) C 6 dX12_tells_263 rfl ?_
                        refine x_iload_n (pc := 264) C 7 dX12_tells_264 rfl ?_
                        refine x_iload_n (pc := 265) C 9 dX12_tells_265 rfl ?_
                        refine x_iload_n (pc := 266) C 8 dX12_tells_266 rfl ?_
                        refine x_callV (pc := 267) C E [.int (nI s), .int (nI a), .int (nI d)] [.int (mk (ktX σ s a d) v)] (c_X12_comesTo t (rr_kinS eMx.1 (k := v) (by omega)) ((congrFun (mu_n _ _ _ _ (by decide)) _).trans eMx.2) (σ := (sKd σ d v)) (s := s) hs hss h8 (a := a) (d := d) (by first | exact ha | omega) hd) m_X12_comesTo q42_14 xo_M rfl (by first | decide | omega) (Nat.le_of_ble_eq_true rfl) dX12_tells_267 rfl (fun r M267 hc267 => ?_)
                        obtain ⟨rfl, hR267, hg267, hF267⟩ := hc267
                        rw [show (!decide (a = d) && ctX ((sKd σ d v)) (vR (sV ((sKd σ d v)))) (sV ((sKd σ d v))) s a d) = ktX σ s a d v from (by rw [decide_eq_false had]; rfl)]
                        show XV κ (xP (wR t) M267) 270 _ [.int (b2i (ktX σ s a d v)), .int (mk (ktX σ s a d) v)]
                        refine x_ifb_eq (pc := 270) C 277 dX12_tells_270 (by decide) (fun h270 => ?_) (fun h270 => ?_)
                        · refine x_iconst (pc := 277) (v := 0) C dX12_tells_277 rfl ?_
                          refine x_iload (pc := 278) C 0 dX12_tells_278 rfl ?_
                          refine x_ishl (pc := 280) C dX12_tells_280 ?_
                          refine x_ior (pc := 281) C dX12_tells_281 ?_
                          refine x_istore (pc := 282) (L' := [(6, .int ((mk (ktX σ s a d) v) ||| (0 <<< ((nI v) &&& 31)))), (10, .int (nI v)), (9, .int (nI 6)), (8, .int (nI (vK (sV (σ)) d))), (7, .int 3), (5, .int 1), (0, .ref (t.1 0)), (1, .int (nI s)), (2, .int (nI d)), (3, .int (nI a)), (4, .int 1)]) C dX12_tells_282 (by decide) rfl ?_
                          refine x_iinc (pc := 284) (v := nI (v + 1)) (L' := [(10, .int (nI (v + 1))), (6, .int ((mk (ktX σ s a d) v) ||| (0 <<< ((nI v) &&& 31)))), (9, .int (nI 6)), (8, .int (nI (vK (sV (σ)) d))), (7, .int 3), (5, .int 1), (0, .ref (t.1 0)), (1, .int (nI s)), (2, .int (nI d)), (3, .int (nI a)), (4, .int 1)]) C 1 dX12_tells_284 rfl (nI_1 _) (by decide) rfl ?_
                          refine x_goto (pc := 287) C 245 dX12_tells_287 (by decide) ?_
                          refine x_sub [0, 2, 3, 4, 1, 5, 6, 7, 8, 9, 10] rfl ?_
                          exact ih (v + 1) _ _ _ (by omega) (mk_z (p := ktX σ s a d) h270) rfl ⟨(rr_kinR h hd hR267), hg267⟩
                        · refine x_iconst (pc := 273) (v := 1) C dX12_tells_273 rfl ?_
                          refine x_goto (pc := 274) C 278 dX12_tells_274 (by decide) ?_
                          refine x_iload (pc := 278) C 0 dX12_tells_278 rfl ?_
                          refine x_ishl (pc := 280) C dX12_tells_280 ?_
                          refine x_ior (pc := 281) C dX12_tells_281 ?_
                          refine x_istore (pc := 282) (L' := [(6, .int ((mk (ktX σ s a d) v) ||| (1 <<< ((nI v) &&& 31)))), (10, .int (nI v)), (9, .int (nI 6)), (8, .int (nI (vK (sV (σ)) d))), (7, .int 3), (5, .int 1), (0, .ref (t.1 0)), (1, .int (nI s)), (2, .int (nI d)), (3, .int (nI a)), (4, .int 1)]) C dX12_tells_282 (by decide) rfl ?_
                          refine x_iinc (pc := 284) (v := nI (v + 1)) (L' := [(10, .int (nI (v + 1))), (6, .int ((mk (ktX σ s a d) v) ||| (1 <<< ((nI v) &&& 31)))), (9, .int (nI 6)), (8, .int (nI (vK (sV (σ)) d))), (7, .int 3), (5, .int 1), (0, .ref (t.1 0)), (1, .int (nI s)), (2, .int (nI d)), (3, .int (nI a)), (4, .int 1)]) C 1 dX12_tells_284 rfl (nI_1 _) (by decide) rfl ?_
                          refine x_goto (pc := 287) C 245 dX12_tells_287 (by decide) ?_
                          refine x_sub [0, 2, 3, 4, 1, 5, 6, 7, 8, 9, 10] rfl ?_
                          exact ih (v + 1) _ _ _ (by omega) (mk_t (p := ktX σ s a d) h270) rfl ⟨(rr_kinR h hd hR267), hg267⟩
                  refine x_sub [0, 1, 2, 3, 4, 5, 6, 7, 8, 9, 10] rfl ?_
                  exact loop245 (6) 0 _ _ _ (by omega) rfl rfl ⟨(rr_kin0 (rr_Sc h hS209) hd), ((hS209 _ _ (by omega)).trans hg)⟩
                · have h8n : (sH σ s).2.1 ≠ 8 := fun e => h97 (by rw [e]; rfl)
                  refine x_bipush (pc := 100) (v := (-2)) C dX12_tells_100 rfl ?_
                  exact x_iret (pc := 102) C X dX12_tells_102 (faq (by
                        unfold a_tells
                        simp only [hos, hod, hoa]
                        refine (if_neg (by ((try simp only [inB_t, inB_f, i_lt, i_le, i_eq, ne_eq, Bool.not_eq_true, Bool.not_eq_false, hpB, decide_eq_true_eq, decide_eq_false_iff_not, li_0, li_1, li_2, li_3, li_4, li_5, li_6, li_7, li_8, li_9, li_10, li_20, li_40, li_99, li_100, li_255, li_899, li_999, li_m1, li_m2, li_m3, li_m4, li_m11, li_m12, li_m13, li_m14, li_m100] at h4 hts h12 h25 htd h66 h71 hta h83 h97 ⊢) <;> omega))).trans ?_
                        refine (if_neg (fun e => by rw [hto] at e; exact absurd e.2 (by decide))).trans ?_
                        refine (if_neg hss).trans ?_
                        exact if_pos h8n) h hg)
              · have hns : (sH σ s).1 = -1 := (by
                  by_cases e : (sH σ s).1 = -1
                  · exact e
                  · rw [decide_eq_false e] at h83; exact absurd h83 (by decide))
                refine x_bipush (pc := 86) (v := (-11)) C dX12_tells_86 rfl ?_
                exact x_iret (pc := 88) C X dX12_tells_88 (faq (by
                      unfold a_tells
                      simp only [hos, hod, hoa]
                      refine (if_neg (by ((try simp only [inB_t, inB_f, i_lt, i_le, i_eq, ne_eq, Bool.not_eq_true, Bool.not_eq_false, hpB, decide_eq_true_eq, decide_eq_false_iff_not, li_0, li_1, li_2, li_3, li_4, li_5, li_6, li_7, li_8, li_9, li_10, li_20, li_40, li_99, li_100, li_255, li_899, li_999, li_m1, li_m2, li_m3, li_m4, li_m11, li_m12, li_m13, li_m14, li_m100] at h4 hts h12 h25 htd h66 h71 hta h83 ⊢) <;> omega))).trans ?_
                      refine (if_neg (fun e => by rw [hto] at e; exact absurd e.2 (by decide))).trans ?_
                      exact if_pos hns) h hg)
            · refine x_bipush (pc := 74) (v := (-2)) C dX12_tells_74 rfl ?_
              exact x_iret (pc := 76) C X dX12_tells_76 (faq (by
                    unfold a_tells
                    simp only [hos, hod]
                    refine (if_neg (by ((try simp only [inB_t, inB_f, i_lt, i_le, i_eq, ne_eq, Bool.not_eq_true, Bool.not_eq_false, hpB, decide_eq_true_eq, decide_eq_false_iff_not, li_0, li_1, li_2, li_3, li_4, li_5, li_6, li_7, li_8, li_9, li_10, li_20, li_40, li_99, li_100, li_255, li_899, li_999, li_m1, li_m2, li_m3, li_m4, li_m11, li_m12, li_m13, li_m14, li_m100] at h4 hts h12 h25 htd h66 h71 ⊢) <;> omega))).trans ?_
                    exact if_pos ⟨by decide, two_f (by ((try simp only [inB_t, inB_f, i_lt, i_le, i_eq, ne_eq, Bool.not_eq_true, Bool.not_eq_false, hpB, decide_eq_true_eq, decide_eq_false_iff_not, li_0, li_1, li_2, li_3, li_4, li_5, li_6, li_7, li_8, li_9, li_10, li_20, li_40, li_99, li_100, li_255, li_899, li_999, li_m1, li_m2, li_m3, li_m4, li_m11, li_m12, li_m13, li_m14, li_m100] at h4 hts h12 h25 htd h66 h71 ⊢) <;> omega))⟩) h hg)
        · obtain rfl : x4 = 2 := i_eq.mpr hk9
          refine x_iload (pc := 31) C 4 dX12_tells_31 rfl ?_
          refine x_iconst (pc := 33) (v := 1) C dX12_tells_33 rfl ?_
          refine x_icmp_eq_f (pc := 34) C 49 dX12_tells_34 (by decide) (by decide) ?_
          refine x_iload (pc := 37) C 4 dX12_tells_37 rfl ?_
          refine x_iconst (pc := 39) (v := 2) C dX12_tells_39 rfl ?_
          refine x_icmp_eq_t (pc := 40) C 49 dX12_tells_40 (by decide) (by decide) ?_
          refine x_iconst (pc := 49) (v := 1) C dX12_tells_49 rfl ?_
          refine x_goto (pc := 50) C 54 dX12_tells_50 (by decide) ?_
          refine x_istore (pc := 54) (L' := [(5, .int 1), (0, .ref (t.1 0)), (1, .int (nI s)), (2, .int (nI d)), (3, .int x3), (4, .int 2)]) C dX12_tells_54 (by decide) rfl ?_
          refine x_iload (pc := 56) C 0 dX12_tells_56 rfl ?_
          refine x_if_eq_f (pc := 58) C 77 dX12_tells_58 (by decide) (by decide) ?_
          refine x_aload_n (pc := 61) C 1 dX12_tells_61 rfl ?_
          refine x_iload_n (pc := 62) C 4 dX12_tells_62 rfl ?_
          refine x_callV (pc := 63) C E [.int x3] [] ( c_X12_isDisk t h _) m_X12_isDisk q13_9 xo_M rfl (by decide) (Nat.le_of_ble_eq_true rfl) dX12_tells_63 rfl (k_I ?_)
          refine x_ifb_eq (pc := 66) C 74 dX12_tells_66 (by decide) (fun h66 => ?_) (fun h66 => ?_)
          · refine x_bipush (pc := 74) (v := (-2)) C dX12_tells_74 rfl ?_
            exact x_iret (pc := 76) C X dX12_tells_76 (faq (by
                  unfold a_tells
                  simp only [hos, hod]
                  refine (if_neg (by ((try simp only [inB_t, inB_f, i_lt, i_le, i_eq, ne_eq, Bool.not_eq_true, Bool.not_eq_false, hpB, decide_eq_true_eq, decide_eq_false_iff_not, li_0, li_1, li_2, li_3, li_4, li_5, li_6, li_7, li_8, li_9, li_10, li_20, li_40, li_99, li_100, li_255, li_899, li_999, li_m1, li_m2, li_m3, li_m4, li_m11, li_m12, li_m13, li_m14, li_m100] at h4 hts h12 h25 htd h66 ⊢) <;> omega))).trans ?_
                  exact if_pos ⟨by decide, two_f (by ((try simp only [inB_t, inB_f, i_lt, i_le, i_eq, ne_eq, Bool.not_eq_true, Bool.not_eq_false, hpB, decide_eq_true_eq, decide_eq_false_iff_not, li_0, li_1, li_2, li_3, li_4, li_5, li_6, li_7, li_8, li_9, li_10, li_20, li_40, li_99, li_100, li_255, li_899, li_999, li_m1, li_m2, li_m3, li_m4, li_m11, li_m12, li_m13, li_m14, li_m100] at h4 hts h12 h25 htd h66 ⊢) <;> omega))⟩) h hg)
          · refine x_iload_n (pc := 69) C 4 dX12_tells_69 rfl ?_
            refine x_iload_n (pc := 70) C 3 dX12_tells_70 rfl ?_
            refine x_icmp_ne (pc := 71) C 77 dX12_tells_71 (by decide) (fun h71 => ?_) (fun h71 => ?_)
            · obtain ⟨a, ha, ea⟩ := inB_of h66 (by omega)
              have hta := nI_toInt (n := a) (by omega)
              have hoa := oN_nI (n := a) (by omega)
              subst ea
              have had : ¬ a = d := fun e => h71 (by rw [e])
              have hto := two_t hn6 ha hd h71
              refine x_aload_n (pc := 77) C 1 dX12_tells_77 rfl ?_
              refine g_M_isThere (pc := 78) C E q12_1 dX12_tells_78 ?_
              refine x_iload_n (pc := 81) C 2 dX12_tells_81 rfl ?_
              refine l_RisThere (pc := 82) C E (by omega) dX12_tells_82 ?_
              refine x_eq (show M 12 s = b2i (!decide ((sH (σ) s).1 = -1)) from (rr_si h (by omega))) ?_
              refine x_ifb_ne (pc := 83) C 89 dX12_tells_83 (by decide) (fun h83 => ?_) (fun h83 => ?_)
              · have hss : (sH σ s).1 ≠ -1 := fun e => by rw [decide_eq_true e] at h83; exact absurd h83 (by decide)
                have h40s := (h.1.2.2.2.2 s hs).1
                refine x_aload_n (pc := 89) C 1 dX12_tells_89 rfl ?_
                refine g_M_sheetSize (pc := 90) C E q12_3 dX12_tells_90 ?_
                refine x_iload_n (pc := 93) C 2 dX12_tells_93 rfl ?_
                refine l_RsheetSize (pc := 94) C E (by omega) dX12_tells_94 ?_
                refine x_eq (show M 14 s = nI (sH (σ) s).2.1 from (rr_sz h (by omega) hss)) ?_
                refine x_bipush (pc := 95) (v := 8) C dX12_tells_95 rfl ?_
                refine x_icmp_eq (pc := 97) C 103 dX12_tells_97 (by decide) (fun h97 => ?_) (fun h97 => ?_)
                · have h8 : (sH σ s).2.1 = 8 := (nI_eq (b := 8) (by omega) (by decide)).mp h97
                  refine x_iload (pc := 103) C 5 dX12_tells_103 rfl ?_
                  refine x_if_ne_t (pc := 105) C 115 dX12_tells_105 (by decide) (by decide) ?_
                  refine x_iconst (pc := 115) (v := 0) C dX12_tells_115 rfl ?_
                  refine x_istore (pc := 116) (L' := [(6, .int 0), (5, .int 1), (0, .ref (t.1 0)), (1, .int (nI s)), (2, .int (nI d)), (3, .int (nI a)), (4, .int 2)]) C dX12_tells_116 (by decide) rfl ?_
                  refine x_iload (pc := 118) C 6 dX12_tells_118 rfl ?_
                  refine x_iconst (pc := 120) (v := 3) C dX12_tells_120 rfl ?_
                  refine x_icmp_ne_t (pc := 121) C 169 dX12_tells_121 (by decide) (by decide) ?_
                  refine x_iload (pc := 169) C 6 dX12_tells_169 rfl ?_
                  refine x_iconst (pc := 171) (v := 1) C dX12_tells_171 rfl ?_
                  refine x_icmp_ne_t (pc := 172) C 179 dX12_tells_172 (by decide) (by decide) ?_
                  refine x_iload (pc := 179) C 6 dX12_tells_179 rfl ?_
                  refine x_iconst (pc := 181) (v := 2) C dX12_tells_181 rfl ?_
                  refine x_icmp_ne_f (pc := 182) C 189 dX12_tells_182 (by decide) (by decide) ?_
                  refine x_iconst (pc := 185) (v := 1) C dX12_tells_185 rfl ?_
                  refine x_goto (pc := 186) C 190 dX12_tells_186 (by decide) ?_
                  refine x_istore (pc := 190) (L' := [(7, .int 1), (6, .int 0), (5, .int 1), (0, .ref (t.1 0)), (1, .int (nI s)), (2, .int (nI d)), (3, .int (nI a)), (4, .int 2)]) C dX12_tells_190 (by decide) rfl ?_
                  refine x_iload (pc := 192) C 0 dX12_tells_192 rfl ?_
                  refine x_iconst (pc := 194) (v := 4) C dX12_tells_194 rfl ?_
                  refine x_icmp_ne_t (pc := 195) C 205 dX12_tells_195 (by decide) (by decide) ?_
                  refine x_aload_n (pc := 205) C 3 dX12_tells_205 rfl ?_
                  refine x_iload_n (pc := 206) C 5 dX12_tells_206 rfl ?_
                  refine x_iload (pc := 207) C 0 dX12_tells_207 rfl ?_
                  refine x_callV (pc := 209) C E [.int (nI d), .int 1] [] (c_X12_told t h hg (nI d) 1) m_X12_told q13_14 xo_M rfl (by first | decide | omega) (Nat.le_of_ble_eq_true rfl) dX12_tells_209 rfl (fun r M209 hc209 => ?_)
                  obtain ⟨rfl, hS209⟩ := hc209
                  show XV κ (xP (wR t) M209) 212 _ [.int (a_told (σ) (nI d) 1)]
                  refine x_eq (show a_told (σ) (nI d) 1 = vU (sV (σ)) d from (told_k (by omega) (by omega)).1) ?_
                  refine x_istore (pc := 212) (L' := [(8, .int (vU (sV (σ)) d)), (7, .int 1), (6, .int 0), (5, .int 1), (0, .ref (t.1 0)), (1, .int (nI s)), (2, .int (nI d)), (3, .int (nI a)), (4, .int 2)]) C dX12_tells_212 (by decide) rfl ?_
                  refine x_iload (pc := 214) C 8 dX12_tells_214 rfl ?_
                  refine x_iconst (pc := 216) (v := 1) C dX12_tells_216 rfl ?_
                  refine x_icmp_ne_t (pc := 217) C 225 dX12_tells_217 (by decide) (by decide) ?_
                  refine x_iload (pc := 225) C 8 dX12_tells_225 rfl ?_
                  refine x_iconst (pc := 227) (v := 2) C dX12_tells_227 rfl ?_
                  refine x_icmp_ne_f (pc := 228) C 236 dX12_tells_228 (by decide) (by decide) ?_
                  refine x_bipush (pc := 231) (v := (nI 10)) C dX12_tells_231 (by decide) ?_
                  refine x_goto (pc := 233) C 240 dX12_tells_233 (by decide) ?_
                  refine x_istore (pc := 240) (L' := [(9, .int (nI 10)), (8, .int (vU (sV (σ)) d)), (7, .int 1), (6, .int 0), (5, .int 1), (0, .ref (t.1 0)), (1, .int (nI s)), (2, .int (nI d)), (3, .int (nI a)), (4, .int 2)]) C dX12_tells_240 (by decide) rfl ?_
                  refine x_iconst (pc := 242) (v := (nI 0)) C dX12_tells_242 (by decide) ?_
                  refine x_istore (pc := 243) (L' := [(10, .int (nI 0)), (9, .int (nI 10)), (8, .int (vU (sV (σ)) d)), (7, .int 1), (6, .int 0), (5, .int 1), (0, .ref (t.1 0)), (1, .int (nI s)), (2, .int (nI d)), (3, .int (nI a)), (4, .int 2)]) C dX12_tells_243 (by decide) rfl ?_
                  have loop245 : ∀ (k v : Nat) (x : Int32) (y : Int32) (Mx : MM) , v + k = 10 → x = mk (ntX σ s a d) v → y = nI v → (RR σ (mu Mx 5 (2 * d) (vU (sV σ) d)) ∧ Mx 0 28 = 0) → XV κ (xP (wR t) Mx) 245 [(10, .int y), (9, .int (nI 10)), (8, .int (vU (sV (σ)) d)), (7, .int 1), (6, .int x), (5, .int 1), (0, .ref (t.1 0)), (1, .int (nI s)), (2, .int (nI d)), (3, .int (nI a)), (4, .int 2)] [] := by
                    intro k
                    induction k with
                      | zero =>
                        intro v x y Mx  hcnt ex ey eMx
                        subst ex
                        subst ey
                        obtain rfl : 10 = v := by omega
                        refine x_iload (pc := 245) C 0 dX12_tells_245 rfl ?_
                        refine x_iload (pc := 247) C 1 dX12_tells_247 rfl ?_
                        refine x_icmp_ge_t (pc := 249) C 290 dX12_tells_249 (by decide) (nI_le (by omega) (by omega)) ?_
                        refine x_aload_n (pc := 290) C 6 dX12_tells_290 rfl ?_
                        refine x_iload (pc := 291) C 3 dX12_tells_291 rfl ?_
                        refine x_iload_n (pc := 293) C 8 dX12_tells_293 rfl ?_
                        refine x_iload (pc := 294) C 2 dX12_tells_294 rfl ?_
                        refine x_callV (pc := 296) C E [.int 1, .int (nI d), .int (vU (sV (σ)) d)] [] (c_X12_lays1 t _ (d := d) (by omega) (vU (sV (σ)) d)) m_X12_lays q18_14 xo_M rfl (by first | decide | omega) (Nat.le_of_ble_eq_true rfl) dX12_tells_296 rfl (k_U ?_)
                        refine x_iload (pc := 299) C 4 dX12_tells_299 rfl ?_
                        exact x_iret (pc := 301) C X dX12_tells_301 (faq (by
                              unfold a_tells
                              simp only [hos, hod, hoa]
                              refine (if_neg (by ((try simp only [inB_t, inB_f, i_lt, i_le, i_eq, ne_eq, Bool.not_eq_true, Bool.not_eq_false, hpB, decide_eq_true_eq, decide_eq_false_iff_not, li_0, li_1, li_2, li_3, li_4, li_5, li_6, li_7, li_8, li_9, li_10, li_20, li_40, li_99, li_100, li_255, li_899, li_999, li_m1, li_m2, li_m3, li_m4, li_m11, li_m12, li_m13, li_m14, li_m100] at h4 hts h12 h25 htd h66 h71 hta h83 h97 ⊢) <;> omega))).trans ?_
                              refine (if_neg (fun e => by rw [hto] at e; exact absurd e.2 (by decide))).trans ?_
                              refine (if_neg hss).trans ?_
                              refine (if_neg (fun e => e h8)).trans ?_
                              rfl) eMx.1 ((congrFun (mu_n _ _ _ _ (by decide)) _).trans eMx.2))
                      | succ k ih =>
                        intro v x y Mx  hcnt ex ey eMx
                        subst ex
                        subst ey
                        have hi245 : v < 10 := by omega
                        refine x_iload (pc := 245) C 0 dX12_tells_245 rfl ?_
                        refine x_iload (pc := 247) C 1 dX12_tells_247 rfl ?_
                        refine x_icmp_ge_f (pc := 249) C 290 dX12_tells_249 (by decide) (nI_ge (by omega) (by omega)) ?_
                        refine x_aload_n (pc := 252) C 6 dX12_tells_252 rfl ?_
                        refine x_iload (pc := 253) C 3 dX12_tells_253 rfl ?_
                        refine x_iload_n (pc := 255) C 8 dX12_tells_255 rfl ?_
                        refine x_iload (pc := 256) C 0 dX12_tells_256 rfl ?_
                        refine x_callV (pc := 258) C E [.int 1, .int (nI d), .int (nI v)] [] (c_X12_lays1 t _ (d := d) (by omega) (nI v)) m_X12_lays q18_14 xo_M rfl (by first | decide | omega) (Nat.le_of_ble_eq_true rfl) dX12_tells_258 rfl (k_U ?_)
                        refine x_iload (pc := 261) C 4 dX12_tells_261 rfl ?_
                        refine x_aload_n (pc := 263) C 6 dX12_tells_263 rfl ?_
                        refine x_iload_n (pc := 264) C 7 dX12_tells_264 rfl ?_
                        refine x_iload_n (pc := 265) C 9 dX12_tells_265 rfl ?_
                        refine x_iload_n (pc := 266) C 8 dX12_tells_266 rfl ?_
                        refine x_callV (pc := 267) C E [.int (nI s), .int (nI a), .int (nI d)] [.int (mk (ntX σ s a d) v)] (c_X12_comesTo t (rr_numS eMx.1 hd (nI v)) ((congrFun (mu_n _ _ _ _ (by decide)) _).trans eMx.2) (σ := (setV σ (vNum (sV σ) d (nI v)))) (s := s) hs hss h8 (a := a) (d := d) (by first | exact ha | omega) hd) m_X12_comesTo q42_14 xo_M rfl (by first | decide | omega) (Nat.le_of_ble_eq_true rfl) dX12_tells_267 rfl (fun r M267 hc267 => ?_)
                        obtain ⟨rfl, hR267, hg267, hF267⟩ := hc267
                        rw [show (!decide (a = d) && ctX ((setV σ (vNum (sV σ) d (nI v)))) (vR (sV ((setV σ (vNum (sV σ) d (nI v)))))) (sV ((setV σ (vNum (sV σ) d (nI v))))) s a d) = ntX σ s a d v from (by rw [decide_eq_false had]; rfl)]
                        show XV κ (xP (wR t) M267) 270 _ [.int (b2i (ntX σ s a d v)), .int (mk (ntX σ s a d) v)]
                        refine x_ifb_eq (pc := 270) C 277 dX12_tells_270 (by decide) (fun h270 => ?_) (fun h270 => ?_)
                        · refine x_iconst (pc := 277) (v := 0) C dX12_tells_277 rfl ?_
                          refine x_iload (pc := 278) C 0 dX12_tells_278 rfl ?_
                          refine x_ishl (pc := 280) C dX12_tells_280 ?_
                          refine x_ior (pc := 281) C dX12_tells_281 ?_
                          refine x_istore (pc := 282) (L' := [(6, .int ((mk (ntX σ s a d) v) ||| (0 <<< ((nI v) &&& 31)))), (10, .int (nI v)), (9, .int (nI 10)), (8, .int (vU (sV (σ)) d)), (7, .int 1), (5, .int 1), (0, .ref (t.1 0)), (1, .int (nI s)), (2, .int (nI d)), (3, .int (nI a)), (4, .int 2)]) C dX12_tells_282 (by decide) rfl ?_
                          refine x_iinc (pc := 284) (v := nI (v + 1)) (L' := [(10, .int (nI (v + 1))), (6, .int ((mk (ntX σ s a d) v) ||| (0 <<< ((nI v) &&& 31)))), (9, .int (nI 10)), (8, .int (vU (sV (σ)) d)), (7, .int 1), (5, .int 1), (0, .ref (t.1 0)), (1, .int (nI s)), (2, .int (nI d)), (3, .int (nI a)), (4, .int 2)]) C 1 dX12_tells_284 rfl (nI_1 _) (by decide) rfl ?_
                          refine x_goto (pc := 287) C 245 dX12_tells_287 (by decide) ?_
                          refine x_sub [0, 2, 3, 4, 1, 5, 6, 7, 8, 9, 10] rfl ?_
                          exact ih (v + 1) _ _ _ (by omega) (mk_z (p := ntX σ s a d) h270) rfl ⟨(rr_numR hR267 hd), hg267⟩
                        · refine x_iconst (pc := 273) (v := 1) C dX12_tells_273 rfl ?_
                          refine x_goto (pc := 274) C 278 dX12_tells_274 (by decide) ?_
                          refine x_iload (pc := 278) C 0 dX12_tells_278 rfl ?_
                          refine x_ishl (pc := 280) C dX12_tells_280 ?_
                          refine x_ior (pc := 281) C dX12_tells_281 ?_
                          refine x_istore (pc := 282) (L' := [(6, .int ((mk (ntX σ s a d) v) ||| (1 <<< ((nI v) &&& 31)))), (10, .int (nI v)), (9, .int (nI 10)), (8, .int (vU (sV (σ)) d)), (7, .int 1), (5, .int 1), (0, .ref (t.1 0)), (1, .int (nI s)), (2, .int (nI d)), (3, .int (nI a)), (4, .int 2)]) C dX12_tells_282 (by decide) rfl ?_
                          refine x_iinc (pc := 284) (v := nI (v + 1)) (L' := [(10, .int (nI (v + 1))), (6, .int ((mk (ntX σ s a d) v) ||| (1 <<< ((nI v) &&& 31)))), (9, .int (nI 10)), (8, .int (vU (sV (σ)) d)), (7, .int 1), (5, .int 1), (0, .ref (t.1 0)), (1, .int (nI s)), (2, .int (nI d)), (3, .int (nI a)), (4, .int 2)]) C 1 dX12_tells_284 rfl (nI_1 _) (by decide) rfl ?_
                          refine x_goto (pc := 287) C 245 dX12_tells_287 (by decide) ?_
                          refine x_sub [0, 2, 3, 4, 1, 5, 6, 7, 8, 9, 10] rfl ?_
                          exact ih (v + 1) _ _ _ (by omega) (mk_t (p := ntX σ s a d) h270) rfl ⟨(rr_numR hR267 hd), hg267⟩
                  refine x_sub [0, 1, 2, 3, 4, 5, 6, 7, 8, 9, 10] rfl ?_
                  exact loop245 (10) 0 _ _ _ (by omega) rfl rfl ⟨(rr_num0 (rr_Sc h hS209) hd), ((hS209 _ _ (by omega)).trans hg)⟩
                · have h8n : (sH σ s).2.1 ≠ 8 := fun e => h97 (by rw [e]; rfl)
                  refine x_bipush (pc := 100) (v := (-2)) C dX12_tells_100 rfl ?_
                  exact x_iret (pc := 102) C X dX12_tells_102 (faq (by
                        unfold a_tells
                        simp only [hos, hod, hoa]
                        refine (if_neg (by ((try simp only [inB_t, inB_f, i_lt, i_le, i_eq, ne_eq, Bool.not_eq_true, Bool.not_eq_false, hpB, decide_eq_true_eq, decide_eq_false_iff_not, li_0, li_1, li_2, li_3, li_4, li_5, li_6, li_7, li_8, li_9, li_10, li_20, li_40, li_99, li_100, li_255, li_899, li_999, li_m1, li_m2, li_m3, li_m4, li_m11, li_m12, li_m13, li_m14, li_m100] at h4 hts h12 h25 htd h66 h71 hta h83 h97 ⊢) <;> omega))).trans ?_
                        refine (if_neg (fun e => by rw [hto] at e; exact absurd e.2 (by decide))).trans ?_
                        refine (if_neg hss).trans ?_
                        exact if_pos h8n) h hg)
              · have hns : (sH σ s).1 = -1 := (by
                  by_cases e : (sH σ s).1 = -1
                  · exact e
                  · rw [decide_eq_false e] at h83; exact absurd h83 (by decide))
                refine x_bipush (pc := 86) (v := (-11)) C dX12_tells_86 rfl ?_
                exact x_iret (pc := 88) C X dX12_tells_88 (faq (by
                      unfold a_tells
                      simp only [hos, hod, hoa]
                      refine (if_neg (by ((try simp only [inB_t, inB_f, i_lt, i_le, i_eq, ne_eq, Bool.not_eq_true, Bool.not_eq_false, hpB, decide_eq_true_eq, decide_eq_false_iff_not, li_0, li_1, li_2, li_3, li_4, li_5, li_6, li_7, li_8, li_9, li_10, li_20, li_40, li_99, li_100, li_255, li_899, li_999, li_m1, li_m2, li_m3, li_m4, li_m11, li_m12, li_m13, li_m14, li_m100] at h4 hts h12 h25 htd h66 h71 hta h83 ⊢) <;> omega))).trans ?_
                      refine (if_neg (fun e => by rw [hto] at e; exact absurd e.2 (by decide))).trans ?_
                      exact if_pos hns) h hg)
            · refine x_bipush (pc := 74) (v := (-2)) C dX12_tells_74 rfl ?_
              exact x_iret (pc := 76) C X dX12_tells_76 (faq (by
                    unfold a_tells
                    simp only [hos, hod]
                    refine (if_neg (by ((try simp only [inB_t, inB_f, i_lt, i_le, i_eq, ne_eq, Bool.not_eq_true, Bool.not_eq_false, hpB, decide_eq_true_eq, decide_eq_false_iff_not, li_0, li_1, li_2, li_3, li_4, li_5, li_6, li_7, li_8, li_9, li_10, li_20, li_40, li_99, li_100, li_255, li_899, li_999, li_m1, li_m2, li_m3, li_m4, li_m11, li_m12, li_m13, li_m14, li_m100] at h4 hts h12 h25 htd h66 h71 ⊢) <;> omega))).trans ?_
                    exact if_pos ⟨by decide, two_f (by ((try simp only [inB_t, inB_f, i_lt, i_le, i_eq, ne_eq, Bool.not_eq_true, Bool.not_eq_false, hpB, decide_eq_true_eq, decide_eq_false_iff_not, li_0, li_1, li_2, li_3, li_4, li_5, li_6, li_7, li_8, li_9, li_10, li_20, li_40, li_99, li_100, li_255, li_899, li_999, li_m1, li_m2, li_m3, li_m4, li_m11, li_m12, li_m13, li_m14, li_m100] at h4 hts h12 h25 htd h66 h71 ⊢) <;> omega))⟩) h hg)
        · obtain rfl : x4 = 3 := i_eq.mpr hk9
          refine x_iload (pc := 31) C 4 dX12_tells_31 rfl ?_
          refine x_iconst (pc := 33) (v := 1) C dX12_tells_33 rfl ?_
          refine x_icmp_eq_f (pc := 34) C 49 dX12_tells_34 (by decide) (by decide) ?_
          refine x_iload (pc := 37) C 4 dX12_tells_37 rfl ?_
          refine x_iconst (pc := 39) (v := 2) C dX12_tells_39 rfl ?_
          refine x_icmp_eq_f (pc := 40) C 49 dX12_tells_40 (by decide) (by decide) ?_
          refine x_iload (pc := 43) C 4 dX12_tells_43 rfl ?_
          refine x_iconst (pc := 45) (v := 4) C dX12_tells_45 rfl ?_
          refine x_icmp_ne_t (pc := 46) C 53 dX12_tells_46 (by decide) (by decide) ?_
          refine x_iconst (pc := 53) (v := 0) C dX12_tells_53 rfl ?_
          refine x_istore (pc := 54) (L' := [(5, .int 0), (0, .ref (t.1 0)), (1, .int (nI s)), (2, .int (nI d)), (3, .int x3), (4, .int 3)]) C dX12_tells_54 (by decide) rfl ?_
          refine x_iload (pc := 56) C 0 dX12_tells_56 rfl ?_
          refine x_if_eq_t (pc := 58) C 77 dX12_tells_58 (by decide) (by decide) ?_
          refine x_aload_n (pc := 77) C 1 dX12_tells_77 rfl ?_
          refine g_M_isThere (pc := 78) C E q12_1 dX12_tells_78 ?_
          refine x_iload_n (pc := 81) C 2 dX12_tells_81 rfl ?_
          refine l_RisThere (pc := 82) C E (by omega) dX12_tells_82 ?_
          refine x_eq (show M 12 s = b2i (!decide ((sH (σ) s).1 = -1)) from (rr_si h (by omega))) ?_
          refine x_ifb_ne (pc := 83) C 89 dX12_tells_83 (by decide) (fun h83 => ?_) (fun h83 => ?_)
          · have hss : (sH σ s).1 ≠ -1 := fun e => by rw [decide_eq_true e] at h83; exact absurd h83 (by decide)
            have h40s := (h.1.2.2.2.2 s hs).1
            refine x_aload_n (pc := 89) C 1 dX12_tells_89 rfl ?_
            refine g_M_sheetSize (pc := 90) C E q12_3 dX12_tells_90 ?_
            refine x_iload_n (pc := 93) C 2 dX12_tells_93 rfl ?_
            refine l_RsheetSize (pc := 94) C E (by omega) dX12_tells_94 ?_
            refine x_eq (show M 14 s = nI (sH (σ) s).2.1 from (rr_sz h (by omega) hss)) ?_
            refine x_bipush (pc := 95) (v := 8) C dX12_tells_95 rfl ?_
            refine x_icmp_eq (pc := 97) C 103 dX12_tells_97 (by decide) (fun h97 => ?_) (fun h97 => ?_)
            · have h8 : (sH σ s).2.1 = 8 := (nI_eq (b := 8) (by omega) (by decide)).mp h97
              refine x_iload (pc := 103) C 5 dX12_tells_103 rfl ?_
              refine x_if_ne_t (pc := 105) C 115 dX12_tells_105 (by decide) (by decide) ?_
              refine x_iconst (pc := 115) (v := 0) C dX12_tells_115 rfl ?_
              refine x_istore (pc := 116) (L' := [(6, .int 0), (5, .int 0), (0, .ref (t.1 0)), (1, .int (nI s)), (2, .int (nI d)), (3, .int x3), (4, .int 3)]) C dX12_tells_116 (by decide) rfl ?_
              refine x_iload (pc := 118) C 6 dX12_tells_118 rfl ?_
              refine x_iconst (pc := 120) (v := 3) C dX12_tells_120 rfl ?_
              refine x_icmp_ne_f (pc := 121) C 169 dX12_tells_121 (by decide) (by decide) ?_
              refine x_iconst (pc := 124) (v := (nI 0)) C dX12_tells_124 (by decide) ?_
              refine x_istore (pc := 125) (L' := [(7, .int (nI 0)), (6, .int 0), (5, .int 0), (0, .ref (t.1 0)), (1, .int (nI s)), (2, .int (nI d)), (3, .int x3), (4, .int 3)]) C dX12_tells_125 (by decide) rfl ?_
              have loop127 : ∀ (k e : Nat) (x : Int32) (y : Int32) (Mx : MM) , e + k = vN (sV σ) → x = mk (dtX σ s d) e → y = nI e → (RR σ Mx ∧ Mx 0 28 = 0) → XV κ (xP (wR t) Mx) 127 [(7, .int y), (6, .int x), (5, .int 0), (0, .ref (t.1 0)), (1, .int (nI s)), (2, .int (nI d)), (3, .int x3), (4, .int 3)] [] := by
                intro k
                induction k with
                  | zero =>
                    intro e x y Mx  hcnt ex ey eMx
                    subst ex
                    subst ey
                    obtain rfl : vN (sV σ) = e := by omega
                    refine x_iload (pc := 127) C 0 dX12_tells_127 rfl ?_
                    refine x_aload_n (pc := 129) C 3 dX12_tells_129 rfl ?_
                    refine g_M_many (pc := 130) C E q13_13 dX12_tells_130 ?_
                    refine x_eq (show Mx 0 12 = nI (vN (sV (σ))) from (rr_size eMx.1)) ?_
                    refine x_icmp_ge_t (pc := 133) C 166 dX12_tells_133 (by decide) (nI_le (by omega) (by omega)) ?_
                    refine x_iload (pc := 166) C 1 dX12_tells_166 rfl ?_
                    exact x_iret (pc := 168) C X dX12_tells_168 (faq (by
                          unfold a_tells
                          simp only [hos, hod]
                          refine (if_neg (by ((try simp only [inB_t, inB_f, i_lt, i_le, i_eq, ne_eq, Bool.not_eq_true, Bool.not_eq_false, hpB, decide_eq_true_eq, decide_eq_false_iff_not, li_0, li_1, li_2, li_3, li_4, li_5, li_6, li_7, li_8, li_9, li_10, li_20, li_40, li_99, li_100, li_255, li_899, li_999, li_m1, li_m2, li_m3, li_m4, li_m11, li_m12, li_m13, li_m14, li_m100] at h4 hts h12 h25 htd h83 h97 ⊢) <;> omega))).trans ?_
                          refine (if_neg (fun e => absurd e.1 (by decide))).trans ?_
                          refine (if_neg hss).trans ?_
                          refine (if_neg (fun e => e h8)).trans ?_
                          rfl) eMx.1 eMx.2)
                  | succ k ih =>
                    intro e x y Mx  hcnt ex ey eMx
                    subst ex
                    subst ey
                    have hi127 : e < vN (sV σ) := by omega
                    refine x_iload (pc := 127) C 0 dX12_tells_127 rfl ?_
                    refine x_aload_n (pc := 129) C 3 dX12_tells_129 rfl ?_
                    refine g_M_many (pc := 130) C E q13_13 dX12_tells_130 ?_
                    refine x_eq (show Mx 0 12 = nI (vN (sV (σ))) from (rr_size eMx.1)) ?_
                    refine x_icmp_ge_f (pc := 133) C 166 dX12_tells_133 (by decide) (nI_ge (by omega) (by omega)) ?_
                    refine x_iload (pc := 136) C 1 dX12_tells_136 rfl ?_
                    refine x_aload_n (pc := 138) C 3 dX12_tells_138 rfl ?_
                    refine x_iload_n (pc := 139) C 4 dX12_tells_139 rfl ?_
                    refine x_iload (pc := 140) C 0 dX12_tells_140 rfl ?_
                    refine x_iload_n (pc := 142) C 5 dX12_tells_142 rfl ?_
                    refine x_callV (pc := 143) C E [.int (nI s), .int (nI e), .int (nI d)] [.int (mk (dtX σ s d) e)] (c_X12_comesTo t eMx.1 eMx.2 (σ := σ) (s := s) hs hss h8 (a := e) (d := d) (by first | exact ha | omega) hd) m_X12_comesTo q42_14 xo_M rfl (by first | decide | omega) (Nat.le_of_ble_eq_true rfl) dX12_tells_143 rfl (fun r M143 hc143 => ?_)
                    obtain ⟨rfl, hR143, hg143, hF143⟩ := hc143
                    rw [show (!decide (e = d) && ctX (σ) (vR (sV (σ))) (sV (σ)) s e d) = dtX σ s d e from rfl]
                    show XV κ (xP (wR t) M143) 146 _ [.int (b2i (dtX σ s d e)), .int (mk (dtX σ s d) e)]
                    refine x_ifb_eq (pc := 146) C 153 dX12_tells_146 (by decide) (fun h146 => ?_) (fun h146 => ?_)
                    · refine x_iconst (pc := 153) (v := 0) C dX12_tells_153 rfl ?_
                      refine x_iload (pc := 154) C 0 dX12_tells_154 rfl ?_
                      refine x_ishl (pc := 156) C dX12_tells_156 ?_
                      refine x_ior (pc := 157) C dX12_tells_157 ?_
                      refine x_istore (pc := 158) (L' := [(6, .int ((mk (dtX σ s d) e) ||| (0 <<< ((nI e) &&& 31)))), (7, .int (nI e)), (5, .int 0), (0, .ref (t.1 0)), (1, .int (nI s)), (2, .int (nI d)), (3, .int x3), (4, .int 3)]) C dX12_tells_158 (by decide) rfl ?_
                      refine x_iinc (pc := 160) (v := nI (e + 1)) (L' := [(7, .int (nI (e + 1))), (6, .int ((mk (dtX σ s d) e) ||| (0 <<< ((nI e) &&& 31)))), (5, .int 0), (0, .ref (t.1 0)), (1, .int (nI s)), (2, .int (nI d)), (3, .int x3), (4, .int 3)]) C 1 dX12_tells_160 rfl (nI_1 _) (by decide) rfl ?_
                      refine x_goto (pc := 163) C 127 dX12_tells_163 (by decide) ?_
                      refine x_sub [0, 1, 2, 3, 4, 5, 6, 7] rfl ?_
                      exact ih (e + 1) _ _ _ (by omega) (mk_z (p := dtX σ s d) h146) rfl ⟨hR143, hg143⟩
                    · refine x_iconst (pc := 149) (v := 1) C dX12_tells_149 rfl ?_
                      refine x_goto (pc := 150) C 154 dX12_tells_150 (by decide) ?_
                      refine x_iload (pc := 154) C 0 dX12_tells_154 rfl ?_
                      refine x_ishl (pc := 156) C dX12_tells_156 ?_
                      refine x_ior (pc := 157) C dX12_tells_157 ?_
                      refine x_istore (pc := 158) (L' := [(6, .int ((mk (dtX σ s d) e) ||| (1 <<< ((nI e) &&& 31)))), (7, .int (nI e)), (5, .int 0), (0, .ref (t.1 0)), (1, .int (nI s)), (2, .int (nI d)), (3, .int x3), (4, .int 3)]) C dX12_tells_158 (by decide) rfl ?_
                      refine x_iinc (pc := 160) (v := nI (e + 1)) (L' := [(7, .int (nI (e + 1))), (6, .int ((mk (dtX σ s d) e) ||| (1 <<< ((nI e) &&& 31)))), (5, .int 0), (0, .ref (t.1 0)), (1, .int (nI s)), (2, .int (nI d)), (3, .int x3), (4, .int 3)]) C 1 dX12_tells_160 rfl (nI_1 _) (by decide) rfl ?_
                      refine x_goto (pc := 163) C 127 dX12_tells_163 (by decide) ?_
                      refine x_sub [0, 1, 2, 3, 4, 5, 6, 7] rfl ?_
                      exact ih (e + 1) _ _ _ (by omega) (mk_t (p := dtX σ s d) h146) rfl ⟨hR143, hg143⟩
              refine x_sub [0, 1, 2, 3, 4, 5, 6, 7] rfl ?_
              exact loop127 (vN (sV σ)) 0 _ _ M (by omega) rfl rfl ⟨h, hg⟩
            · have h8n : (sH σ s).2.1 ≠ 8 := fun e => h97 (by rw [e]; rfl)
              refine x_bipush (pc := 100) (v := (-2)) C dX12_tells_100 rfl ?_
              exact x_iret (pc := 102) C X dX12_tells_102 (faq (by
                    unfold a_tells
                    simp only [hos, hod]
                    refine (if_neg (by ((try simp only [inB_t, inB_f, i_lt, i_le, i_eq, ne_eq, Bool.not_eq_true, Bool.not_eq_false, hpB, decide_eq_true_eq, decide_eq_false_iff_not, li_0, li_1, li_2, li_3, li_4, li_5, li_6, li_7, li_8, li_9, li_10, li_20, li_40, li_99, li_100, li_255, li_899, li_999, li_m1, li_m2, li_m3, li_m4, li_m11, li_m12, li_m13, li_m14, li_m100] at h4 hts h12 h25 htd h83 h97 ⊢) <;> omega))).trans ?_
                    refine (if_neg (fun e => absurd e.1 (by decide))).trans ?_
                    refine (if_neg hss).trans ?_
                    exact if_pos h8n) h hg)
          · have hns : (sH σ s).1 = -1 := (by
              by_cases e : (sH σ s).1 = -1
              · exact e
              · rw [decide_eq_false e] at h83; exact absurd h83 (by decide))
            refine x_bipush (pc := 86) (v := (-11)) C dX12_tells_86 rfl ?_
            exact x_iret (pc := 88) C X dX12_tells_88 (faq (by
                  unfold a_tells
                  simp only [hos, hod]
                  refine (if_neg (by ((try simp only [inB_t, inB_f, i_lt, i_le, i_eq, ne_eq, Bool.not_eq_true, Bool.not_eq_false, hpB, decide_eq_true_eq, decide_eq_false_iff_not, li_0, li_1, li_2, li_3, li_4, li_5, li_6, li_7, li_8, li_9, li_10, li_20, li_40, li_99, li_100, li_255, li_899, li_999, li_m1, li_m2, li_m3, li_m4, li_m11, li_m12, li_m13, li_m14, li_m100] at h4 hts h12 h25 htd h83 ⊢) <;> omega))).trans ?_
                  refine (if_neg (fun e => absurd e.1 (by decide))).trans ?_
                  exact if_pos hns) h hg)
        · obtain rfl : x4 = 4 := i_eq.mpr hk9
          refine x_iload (pc := 31) C 4 dX12_tells_31 rfl ?_
          refine x_iconst (pc := 33) (v := 1) C dX12_tells_33 rfl ?_
          refine x_icmp_eq_f (pc := 34) C 49 dX12_tells_34 (by decide) (by decide) ?_
          refine x_iload (pc := 37) C 4 dX12_tells_37 rfl ?_
          refine x_iconst (pc := 39) (v := 2) C dX12_tells_39 rfl ?_
          refine x_icmp_eq_f (pc := 40) C 49 dX12_tells_40 (by decide) (by decide) ?_
          refine x_iload (pc := 43) C 4 dX12_tells_43 rfl ?_
          refine x_iconst (pc := 45) (v := 4) C dX12_tells_45 rfl ?_
          refine x_icmp_ne_f (pc := 46) C 53 dX12_tells_46 (by decide) (by decide) ?_
          refine x_iconst (pc := 49) (v := 1) C dX12_tells_49 rfl ?_
          refine x_goto (pc := 50) C 54 dX12_tells_50 (by decide) ?_
          refine x_istore (pc := 54) (L' := [(5, .int 1), (0, .ref (t.1 0)), (1, .int (nI s)), (2, .int (nI d)), (3, .int x3), (4, .int 4)]) C dX12_tells_54 (by decide) rfl ?_
          refine x_iload (pc := 56) C 0 dX12_tells_56 rfl ?_
          refine x_if_eq_f (pc := 58) C 77 dX12_tells_58 (by decide) (by decide) ?_
          refine x_aload_n (pc := 61) C 1 dX12_tells_61 rfl ?_
          refine x_iload_n (pc := 62) C 4 dX12_tells_62 rfl ?_
          refine x_callV (pc := 63) C E [.int x3] [] ( c_X12_isDisk t h _) m_X12_isDisk q13_9 xo_M rfl (by decide) (Nat.le_of_ble_eq_true rfl) dX12_tells_63 rfl (k_I ?_)
          refine x_ifb_eq (pc := 66) C 74 dX12_tells_66 (by decide) (fun h66 => ?_) (fun h66 => ?_)
          · refine x_bipush (pc := 74) (v := (-2)) C dX12_tells_74 rfl ?_
            exact x_iret (pc := 76) C X dX12_tells_76 (faq (by
                  unfold a_tells
                  simp only [hos, hod]
                  refine (if_neg (by ((try simp only [inB_t, inB_f, i_lt, i_le, i_eq, ne_eq, Bool.not_eq_true, Bool.not_eq_false, hpB, decide_eq_true_eq, decide_eq_false_iff_not, li_0, li_1, li_2, li_3, li_4, li_5, li_6, li_7, li_8, li_9, li_10, li_20, li_40, li_99, li_100, li_255, li_899, li_999, li_m1, li_m2, li_m3, li_m4, li_m11, li_m12, li_m13, li_m14, li_m100] at h4 hts h12 h25 htd h66 ⊢) <;> omega))).trans ?_
                  exact if_pos ⟨by decide, two_f (by ((try simp only [inB_t, inB_f, i_lt, i_le, i_eq, ne_eq, Bool.not_eq_true, Bool.not_eq_false, hpB, decide_eq_true_eq, decide_eq_false_iff_not, li_0, li_1, li_2, li_3, li_4, li_5, li_6, li_7, li_8, li_9, li_10, li_20, li_40, li_99, li_100, li_255, li_899, li_999, li_m1, li_m2, li_m3, li_m4, li_m11, li_m12, li_m13, li_m14, li_m100] at h4 hts h12 h25 htd h66 ⊢) <;> omega))⟩) h hg)
          · refine x_iload_n (pc := 69) C 4 dX12_tells_69 rfl ?_
            refine x_iload_n (pc := 70) C 3 dX12_tells_70 rfl ?_
            refine x_icmp_ne (pc := 71) C 77 dX12_tells_71 (by decide) (fun h71 => ?_) (fun h71 => ?_)
            · obtain ⟨a, ha, ea⟩ := inB_of h66 (by omega)
              have hta := nI_toInt (n := a) (by omega)
              have hoa := oN_nI (n := a) (by omega)
              subst ea
              have had : ¬ a = d := fun e => h71 (by rw [e])
              have hto := two_t hn6 ha hd h71
              refine x_aload_n (pc := 77) C 1 dX12_tells_77 rfl ?_
              refine g_M_isThere (pc := 78) C E q12_1 dX12_tells_78 ?_
              refine x_iload_n (pc := 81) C 2 dX12_tells_81 rfl ?_
              refine l_RisThere (pc := 82) C E (by omega) dX12_tells_82 ?_
              refine x_eq (show M 12 s = b2i (!decide ((sH (σ) s).1 = -1)) from (rr_si h (by omega))) ?_
              refine x_ifb_ne (pc := 83) C 89 dX12_tells_83 (by decide) (fun h83 => ?_) (fun h83 => ?_)
              · have hss : (sH σ s).1 ≠ -1 := fun e => by rw [decide_eq_true e] at h83; exact absurd h83 (by decide)
                have h40s := (h.1.2.2.2.2 s hs).1
                refine x_aload_n (pc := 89) C 1 dX12_tells_89 rfl ?_
                refine g_M_sheetSize (pc := 90) C E q12_3 dX12_tells_90 ?_
                refine x_iload_n (pc := 93) C 2 dX12_tells_93 rfl ?_
                refine l_RsheetSize (pc := 94) C E (by omega) dX12_tells_94 ?_
                refine x_eq (show M 14 s = nI (sH (σ) s).2.1 from (rr_sz h (by omega) hss)) ?_
                refine x_bipush (pc := 95) (v := 8) C dX12_tells_95 rfl ?_
                refine x_icmp_eq (pc := 97) C 103 dX12_tells_97 (by decide) (fun h97 => ?_) (fun h97 => ?_)
                · have h8 : (sH σ s).2.1 = 8 := (nI_eq (b := 8) (by omega) (by decide)).mp h97
                  refine x_iload (pc := 103) C 5 dX12_tells_103 rfl ?_
                  refine x_if_ne_t (pc := 105) C 115 dX12_tells_105 (by decide) (by decide) ?_
                  refine x_iconst (pc := 115) (v := 0) C dX12_tells_115 rfl ?_
                  refine x_istore (pc := 116) (L' := [(6, .int 0), (5, .int 1), (0, .ref (t.1 0)), (1, .int (nI s)), (2, .int (nI d)), (3, .int (nI a)), (4, .int 4)]) C dX12_tells_116 (by decide) rfl ?_
                  refine x_iload (pc := 118) C 6 dX12_tells_118 rfl ?_
                  refine x_iconst (pc := 120) (v := 3) C dX12_tells_120 rfl ?_
                  refine x_icmp_ne_t (pc := 121) C 169 dX12_tells_121 (by decide) (by decide) ?_
                  refine x_iload (pc := 169) C 6 dX12_tells_169 rfl ?_
                  refine x_iconst (pc := 171) (v := 1) C dX12_tells_171 rfl ?_
                  refine x_icmp_ne_t (pc := 172) C 179 dX12_tells_172 (by decide) (by decide) ?_
                  refine x_iload (pc := 179) C 6 dX12_tells_179 rfl ?_
                  refine x_iconst (pc := 181) (v := 2) C dX12_tells_181 rfl ?_
                  refine x_icmp_ne_t (pc := 182) C 189 dX12_tells_182 (by decide) (by decide) ?_
                  refine x_iconst (pc := 189) (v := 4) C dX12_tells_189 rfl ?_
                  refine x_istore (pc := 190) (L' := [(7, .int 4), (6, .int 0), (5, .int 1), (0, .ref (t.1 0)), (1, .int (nI s)), (2, .int (nI d)), (3, .int (nI a)), (4, .int 4)]) C dX12_tells_190 (by decide) rfl ?_
                  refine x_iload (pc := 192) C 0 dX12_tells_192 rfl ?_
                  refine x_iconst (pc := 194) (v := 4) C dX12_tells_194 rfl ?_
                  refine x_icmp_ne_f (pc := 195) C 205 dX12_tells_195 (by decide) (by decide) ?_
                  refine x_aload_n (pc := 198) C 3 dX12_tells_198 rfl ?_
                  refine g_M_rule (pc := 199) C E q15_2 dX12_tells_199 ?_
                  refine x_eq (show M 0 4 = nI (vR (sV (σ))) from (rr_rule h)) ?_
                  refine x_goto (pc := 202) C 212 dX12_tells_202 (by decide) ?_
                  refine x_istore (pc := 212) (L' := [(8, .int (nI (vR (sV (σ))))), (7, .int 4), (6, .int 0), (5, .int 1), (0, .ref (t.1 0)), (1, .int (nI s)), (2, .int (nI d)), (3, .int (nI a)), (4, .int 4)]) C dX12_tells_212 (by decide) rfl ?_
                  refine x_iload (pc := 214) C 8 dX12_tells_214 rfl ?_
                  refine x_iconst (pc := 216) (v := 1) C dX12_tells_216 rfl ?_
                  refine x_icmp_ne_t (pc := 217) C 225 dX12_tells_217 (by decide) (by decide) ?_
                  refine x_iload (pc := 225) C 8 dX12_tells_225 rfl ?_
                  refine x_iconst (pc := 227) (v := 2) C dX12_tells_227 rfl ?_
                  refine x_icmp_ne_t (pc := 228) C 236 dX12_tells_228 (by decide) (by decide) ?_
                  refine x_aload_n (pc := 236) C 4 dX12_tells_236 rfl ?_
                  refine g_M_textCount (pc := 237) C E q12_5 dX12_tells_237 ?_
                  refine x_eq (show M 0 3 = nI (sN (σ)) from (rr_tc h)) ?_
                  refine x_istore (pc := 240) (L' := [(9, .int (nI (sN (σ)))), (8, .int (nI (vR (sV (σ))))), (7, .int 4), (6, .int 0), (5, .int 1), (0, .ref (t.1 0)), (1, .int (nI s)), (2, .int (nI d)), (3, .int (nI a)), (4, .int 4)]) C dX12_tells_240 (by decide) rfl ?_
                  refine x_iconst (pc := 242) (v := (nI 0)) C dX12_tells_242 (by decide) ?_
                  refine x_istore (pc := 243) (L' := [(10, .int (nI 0)), (9, .int (nI (sN (σ)))), (8, .int (nI (vR (sV (σ))))), (7, .int 4), (6, .int 0), (5, .int 1), (0, .ref (t.1 0)), (1, .int (nI s)), (2, .int (nI d)), (3, .int (nI a)), (4, .int 4)]) C dX12_tells_243 (by decide) rfl ?_
                  have loop245 : ∀ (k v : Nat) (x : Int32) (y : Int32) (Mx : MM) , v + k = sN σ → x = mk (ttX σ s a d) v → y = nI v → (RR σ (mu Mx 0 4 (nI (vR (sV σ)))) ∧ Mx 0 28 = 0) → XV κ (xP (wR t) Mx) 245 [(10, .int y), (9, .int (nI (sN (σ)))), (8, .int (nI (vR (sV (σ))))), (7, .int 4), (6, .int x), (5, .int 1), (0, .ref (t.1 0)), (1, .int (nI s)), (2, .int (nI d)), (3, .int (nI a)), (4, .int 4)] [] := by
                    intro k
                    induction k with
                      | zero =>
                        intro v x y Mx  hcnt ex ey eMx
                        subst ex
                        subst ey
                        obtain rfl : sN σ = v := by omega
                        refine x_iload (pc := 245) C 0 dX12_tells_245 rfl ?_
                        refine x_iload (pc := 247) C 1 dX12_tells_247 rfl ?_
                        refine x_icmp_ge_t (pc := 249) C 290 dX12_tells_249 (by decide) (nI_le (by omega) (by omega)) ?_
                        refine x_aload_n (pc := 290) C 6 dX12_tells_290 rfl ?_
                        refine x_iload (pc := 291) C 3 dX12_tells_291 rfl ?_
                        refine x_iload_n (pc := 293) C 8 dX12_tells_293 rfl ?_
                        refine x_iload (pc := 294) C 2 dX12_tells_294 rfl ?_
                        refine x_callV (pc := 296) C E [.int 4, .int (nI d), .int (nI (vR (sV (σ))))] [] (c_X12_lays4 t _ (nI d) (nI (vR (sV (σ))))) m_X12_lays q18_14 xo_M rfl (by first | decide | omega) (Nat.le_of_ble_eq_true rfl) dX12_tells_296 rfl (k_U ?_)
                        refine x_iload (pc := 299) C 4 dX12_tells_299 rfl ?_
                        exact x_iret (pc := 301) C X dX12_tells_301 (faq (by
                              unfold a_tells
                              simp only [hos, hod, hoa]
                              refine (if_neg (by ((try simp only [inB_t, inB_f, i_lt, i_le, i_eq, ne_eq, Bool.not_eq_true, Bool.not_eq_false, hpB, decide_eq_true_eq, decide_eq_false_iff_not, li_0, li_1, li_2, li_3, li_4, li_5, li_6, li_7, li_8, li_9, li_10, li_20, li_40, li_99, li_100, li_255, li_899, li_999, li_m1, li_m2, li_m3, li_m4, li_m11, li_m12, li_m13, li_m14, li_m100] at h4 hts h12 h25 htd h66 h71 hta h83 h97 ⊢) <;> omega))).trans ?_
                              refine (if_neg (fun e => by rw [hto] at e; exact absurd e.2 (by decide))).trans ?_
                              refine (if_neg hss).trans ?_
                              refine (if_neg (fun e => e h8)).trans ?_
                              rfl) eMx.1 ((mu_k _ _ _ _ (by decide)).trans eMx.2))
                      | succ k ih =>
                        intro v x y Mx  hcnt ex ey eMx
                        subst ex
                        subst ey
                        have hi245 : v < sN σ := by omega
                        refine x_iload (pc := 245) C 0 dX12_tells_245 rfl ?_
                        refine x_iload (pc := 247) C 1 dX12_tells_247 rfl ?_
                        refine x_icmp_ge_f (pc := 249) C 290 dX12_tells_249 (by decide) (nI_ge (by omega) (by omega)) ?_
                        refine x_aload_n (pc := 252) C 6 dX12_tells_252 rfl ?_
                        refine x_iload (pc := 253) C 3 dX12_tells_253 rfl ?_
                        refine x_iload_n (pc := 255) C 8 dX12_tells_255 rfl ?_
                        refine x_iload (pc := 256) C 0 dX12_tells_256 rfl ?_
                        refine x_callV (pc := 258) C E [.int 4, .int (nI d), .int (nI v)] [] (c_X12_lays4 t _ (nI d) (nI v)) m_X12_lays q18_14 xo_M rfl (by first | decide | omega) (Nat.le_of_ble_eq_true rfl) dX12_tells_258 rfl (k_U ?_)
                        refine x_iload (pc := 261) C 4 dX12_tells_261 rfl ?_
                        refine x_aload_n (pc := 263) C 6 dX12_tells_263 rfl ?_
                        refine x_iload_n (pc := 264) C 7 dX12_tells_264 rfl ?_
                        refine x_iload_n (pc := 265) C 9 dX12_tells_265 rfl ?_
                        refine x_iload_n (pc := 266) C 8 dX12_tells_266 rfl ?_
                        refine x_callV (pc := 267) C E [.int (nI s), .int (nI a), .int (nI d)] [.int (mk (ttX σ s a d) v)] (c_X12_comesTo t (rr_rulS eMx.1 (k := v) (by omega)) ((mu_k _ _ _ _ (by decide)).trans eMx.2) (σ := (setV σ (vRul (sV σ) v))) (s := s) hs hss h8 (a := a) (d := d) (by first | exact ha | omega) hd) m_X12_comesTo q42_14 xo_M rfl (by first | decide | omega) (Nat.le_of_ble_eq_true rfl) dX12_tells_267 rfl (fun r M267 hc267 => ?_)
                        obtain ⟨rfl, hR267, hg267, hF267⟩ := hc267
                        rw [show (!decide (a = d) && ctX ((setV σ (vRul (sV σ) v))) (vR (sV ((setV σ (vRul (sV σ) v))))) (sV ((setV σ (vRul (sV σ) v)))) s a d) = ttX σ s a d v from (by rw [decide_eq_false had]; exact ctX_rul σ (sV σ) v s a d)]
                        show XV κ (xP (wR t) M267) 270 _ [.int (b2i (ttX σ s a d v)), .int (mk (ttX σ s a d) v)]
                        refine x_ifb_eq (pc := 270) C 277 dX12_tells_270 (by decide) (fun h270 => ?_) (fun h270 => ?_)
                        · refine x_iconst (pc := 277) (v := 0) C dX12_tells_277 rfl ?_
                          refine x_iload (pc := 278) C 0 dX12_tells_278 rfl ?_
                          refine x_ishl (pc := 280) C dX12_tells_280 ?_
                          refine x_ior (pc := 281) C dX12_tells_281 ?_
                          refine x_istore (pc := 282) (L' := [(6, .int ((mk (ttX σ s a d) v) ||| (0 <<< ((nI v) &&& 31)))), (10, .int (nI v)), (9, .int (nI (sN (σ)))), (8, .int (nI (vR (sV (σ))))), (7, .int 4), (5, .int 1), (0, .ref (t.1 0)), (1, .int (nI s)), (2, .int (nI d)), (3, .int (nI a)), (4, .int 4)]) C dX12_tells_282 (by decide) rfl ?_
                          refine x_iinc (pc := 284) (v := nI (v + 1)) (L' := [(10, .int (nI (v + 1))), (6, .int ((mk (ttX σ s a d) v) ||| (0 <<< ((nI v) &&& 31)))), (9, .int (nI (sN (σ)))), (8, .int (nI (vR (sV (σ))))), (7, .int 4), (5, .int 1), (0, .ref (t.1 0)), (1, .int (nI s)), (2, .int (nI d)), (3, .int (nI a)), (4, .int 4)]) C 1 dX12_tells_284 rfl (nI_1 _) (by decide) rfl ?_
                          refine x_goto (pc := 287) C 245 dX12_tells_287 (by decide) ?_
                          refine x_sub [0, 2, 3, 4, 1, 5, 6, 7, 8, 9, 10] rfl ?_
                          exact ih (v + 1) _ _ _ (by omega) (mk_z (p := ttX σ s a d) h270) rfl ⟨(rr_rulR h hR267), hg267⟩
                        · refine x_iconst (pc := 273) (v := 1) C dX12_tells_273 rfl ?_
                          refine x_goto (pc := 274) C 278 dX12_tells_274 (by decide) ?_
                          refine x_iload (pc := 278) C 0 dX12_tells_278 rfl ?_
                          refine x_ishl (pc := 280) C dX12_tells_280 ?_
                          refine x_ior (pc := 281) C dX12_tells_281 ?_
                          refine x_istore (pc := 282) (L' := [(6, .int ((mk (ttX σ s a d) v) ||| (1 <<< ((nI v) &&& 31)))), (10, .int (nI v)), (9, .int (nI (sN (σ)))), (8, .int (nI (vR (sV (σ))))), (7, .int 4), (5, .int 1), (0, .ref (t.1 0)), (1, .int (nI s)), (2, .int (nI d)), (3, .int (nI a)), (4, .int 4)]) C dX12_tells_282 (by decide) rfl ?_
                          refine x_iinc (pc := 284) (v := nI (v + 1)) (L' := [(10, .int (nI (v + 1))), (6, .int ((mk (ttX σ s a d) v) ||| (1 <<< ((nI v) &&& 31)))), (9, .int (nI (sN (σ)))), (8, .int (nI (vR (sV (σ))))), (7, .int 4), (5, .int 1), (0, .ref (t.1 0)), (1, .int (nI s)), (2, .int (nI d)), (3, .int (nI a)), (4, .int 4)]) C 1 dX12_tells_284 rfl (nI_1 _) (by decide) rfl ?_
                          refine x_goto (pc := 287) C 245 dX12_tells_287 (by decide) ?_
                          refine x_sub [0, 2, 3, 4, 1, 5, 6, 7, 8, 9, 10] rfl ?_
                          exact ih (v + 1) _ _ _ (by omega) (mk_t (p := ttX σ s a d) h270) rfl ⟨(rr_rulR h hR267), hg267⟩
                  refine x_sub [0, 1, 2, 3, 4, 5, 6, 7, 8, 9, 10] rfl ?_
                  exact loop245 (sN σ) 0 _ _ _ (by omega) rfl rfl ⟨(rr_rul0 h), hg⟩
                · have h8n : (sH σ s).2.1 ≠ 8 := fun e => h97 (by rw [e]; rfl)
                  refine x_bipush (pc := 100) (v := (-2)) C dX12_tells_100 rfl ?_
                  exact x_iret (pc := 102) C X dX12_tells_102 (faq (by
                        unfold a_tells
                        simp only [hos, hod, hoa]
                        refine (if_neg (by ((try simp only [inB_t, inB_f, i_lt, i_le, i_eq, ne_eq, Bool.not_eq_true, Bool.not_eq_false, hpB, decide_eq_true_eq, decide_eq_false_iff_not, li_0, li_1, li_2, li_3, li_4, li_5, li_6, li_7, li_8, li_9, li_10, li_20, li_40, li_99, li_100, li_255, li_899, li_999, li_m1, li_m2, li_m3, li_m4, li_m11, li_m12, li_m13, li_m14, li_m100] at h4 hts h12 h25 htd h66 h71 hta h83 h97 ⊢) <;> omega))).trans ?_
                        refine (if_neg (fun e => by rw [hto] at e; exact absurd e.2 (by decide))).trans ?_
                        refine (if_neg hss).trans ?_
                        exact if_pos h8n) h hg)
              · have hns : (sH σ s).1 = -1 := (by
                  by_cases e : (sH σ s).1 = -1
                  · exact e
                  · rw [decide_eq_false e] at h83; exact absurd h83 (by decide))
                refine x_bipush (pc := 86) (v := (-11)) C dX12_tells_86 rfl ?_
                exact x_iret (pc := 88) C X dX12_tells_88 (faq (by
                      unfold a_tells
                      simp only [hos, hod, hoa]
                      refine (if_neg (by ((try simp only [inB_t, inB_f, i_lt, i_le, i_eq, ne_eq, Bool.not_eq_true, Bool.not_eq_false, hpB, decide_eq_true_eq, decide_eq_false_iff_not, li_0, li_1, li_2, li_3, li_4, li_5, li_6, li_7, li_8, li_9, li_10, li_20, li_40, li_99, li_100, li_255, li_899, li_999, li_m1, li_m2, li_m3, li_m4, li_m11, li_m12, li_m13, li_m14, li_m100] at h4 hts h12 h25 htd h66 h71 hta h83 ⊢) <;> omega))).trans ?_
                      refine (if_neg (fun e => by rw [hto] at e; exact absurd e.2 (by decide))).trans ?_
                      exact if_pos hns) h hg)
            · refine x_bipush (pc := 74) (v := (-2)) C dX12_tells_74 rfl ?_
              exact x_iret (pc := 76) C X dX12_tells_76 (faq (by
                    unfold a_tells
                    simp only [hos, hod]
                    refine (if_neg (by ((try simp only [inB_t, inB_f, i_lt, i_le, i_eq, ne_eq, Bool.not_eq_true, Bool.not_eq_false, hpB, decide_eq_true_eq, decide_eq_false_iff_not, li_0, li_1, li_2, li_3, li_4, li_5, li_6, li_7, li_8, li_9, li_10, li_20, li_40, li_99, li_100, li_255, li_899, li_999, li_m1, li_m2, li_m3, li_m4, li_m11, li_m12, li_m13, li_m14, li_m100] at h4 hts h12 h25 htd h66 h71 ⊢) <;> omega))).trans ?_
                    exact if_pos ⟨by decide, two_f (by ((try simp only [inB_t, inB_f, i_lt, i_le, i_eq, ne_eq, Bool.not_eq_true, Bool.not_eq_false, hpB, decide_eq_true_eq, decide_eq_false_iff_not, li_0, li_1, li_2, li_3, li_4, li_5, li_6, li_7, li_8, li_9, li_10, li_20, li_40, li_99, li_100, li_255, li_899, li_999, li_m1, li_m2, li_m3, li_m4, li_m11, li_m12, li_m13, li_m14, li_m100] at h4 hts h12 h25 htd h66 h71 ⊢) <;> omega))⟩) h hg)
        
      · refine x_bipush (pc := 28) (v := (-2)) C dX12_tells_28 rfl ?_
        exact x_iret (pc := 30) C X dX12_tells_30 (faq (by
              unfold a_tells
              simp only [hos]
              repeat (first | with_reducible rfl | (refine (if_pos ?_).trans ?_; ((try simp only [inB_t, inB_f, i_lt, i_le, i_eq, ne_eq, Bool.not_eq_true, Bool.not_eq_false, hpB, decide_eq_true_eq, decide_eq_false_iff_not, li_0, li_1, li_2, li_3, li_4, li_5, li_6, li_7, li_8, li_9, li_10, li_20, li_40, li_99, li_100, li_255, li_899, li_999, li_m1, li_m2, li_m3, li_m4, li_m11, li_m12, li_m13, li_m14, li_m100] at h4 hts h12 h25 ⊢) <;> omega)) | (refine (if_neg ?_).trans ?_; ((try simp only [inB_t, inB_f, i_lt, i_le, i_eq, ne_eq, Bool.not_eq_true, Bool.not_eq_false, hpB, decide_eq_true_eq, decide_eq_false_iff_not, li_0, li_1, li_2, li_3, li_4, li_5, li_6, li_7, li_8, li_9, li_10, li_20, li_40, li_99, li_100, li_255, li_899, li_999, li_m1, li_m2, li_m3, li_m4, li_m11, li_m12, li_m13, li_m14, li_m100] at h4 hts h12 h25 ⊢) <;> omega)) | fail)
              all_goals (first | with_reducible rfl | (exfalso; ((try simp only [inB_t, inB_f, i_lt, i_le, i_eq, ne_eq, Bool.not_eq_true, Bool.not_eq_false, hpB, decide_eq_true_eq, decide_eq_false_iff_not, li_0, li_1, li_2, li_3, li_4, li_5, li_6, li_7, li_8, li_9, li_10, li_20, li_40, li_99, li_100, li_255, li_899, li_999, li_m1, li_m2, li_m3, li_m4, li_m11, li_m12, li_m13, li_m14, li_m100] at h4 hts h12 h25 ⊢) <;> omega)))) h hg)

