/-- the greatest that divides both, from d down; 1 at least -/
def cdF (g n : Nat) : Nat → Nat
  | 0 => 1
  | d + 1 => if g % (d + 2) = 0 ∧ n % (d + 2) = 0 then d + 2 else cdF g n d
theorem nI_sub1 {n i : Nat} (h : i + 1 < n) : nI (n - i) + (-1) = nI (n - (i + 1)) := by
  obtain ⟨m, rfl⟩ : ∃ m, n = i + 1 + m := ⟨n - (i + 1), by omega⟩
  rw [show i + 1 + m - i = m + 1 by omega, show i + 1 + m - (i + 1) = m by omega, ← nI_1, Int32.add_assoc, show (1 : Int32) + (-1) = 0 from rfl, Int32.add_zero]
set_option maxRecDepth 100000 in
set_option maxHeartbeats 800000 in
theorem c_X11_commonDivisor (t : CT) (M : MM) {g n : Nat} (hg : g ≤ n) (h1 : 1 ≤ n) (h20 : n ≤ 20) : XMet (wC t) yX11_commonDivisor cX11_commonDivisor 3 (some .int) 1 [.int (nI g), .int (nI n)] M (rI (nI (cdF g n (n - 1))) M) := by
  refine x_met RX11 (by decide) rfl (Nat.le_of_ble_eq_true rfl) (fun κ C X E => ?_)
  refine x_L (L' := [(0, .int (nI g)), (1, .int (nI n))]) rfl ?_
  refine x_iload_n (pc := 0) C 1 dX11_commonDivisor_0 rfl ?_
  refine x_istore_n (pc := 1) (L' := [(2, .int (nI n)), (0, .int (nI g)), (1, .int (nI n))]) C dX11_commonDivisor_1 (by decide) rfl ?_
  have loop2 : ∀ (k i : Nat) (y : Int32) , i + k = n - 1 → y = nI (n - i) → cdF g n k = cdF g n (n - 1) → XV κ (xP (wC t) M) 2 [(2, .int y), (0, .int (nI g)), (1, .int (nI n))] [] := by
    intro k
    induction k with
      | zero =>
        intro i y  hcnt ey hc
        subst ey
        obtain rfl : n - 1 = i := by omega
        refine x_iload_n (pc := 2) C 0 dX11_commonDivisor_2 rfl ?_
        refine x_iconst (pc := 3) (v := (nI 1)) C dX11_commonDivisor_3 (by decide) ?_
        refine x_icmp_le_t (pc := 4) C 27 dX11_commonDivisor_4 (by decide) (nI_le (by omega) (by omega)) ?_
        refine x_iconst (pc := 27) (v := (nI 1)) C dX11_commonDivisor_27 (by decide) ?_
        exact x_iret (pc := 28) C X dX11_commonDivisor_28 ⟨by rw [← hc]; rfl, rfl⟩
      | succ k ih =>
        intro i y  hcnt ey hc
        subst ey
        have hi2 : i < n - 1 := by omega
        refine x_iload_n (pc := 2) C 0 dX11_commonDivisor_2 rfl ?_
        refine x_iconst (pc := 3) (v := (nI 1)) C dX11_commonDivisor_3 (by decide) ?_
        refine x_icmp_le_f (pc := 4) C 27 dX11_commonDivisor_4 (by decide) (nI_ge (by omega) (by omega)) ?_
        have hd2 : k + 2 = n - i := by omega
        refine x_iload_n (pc := 7) C 1 dX11_commonDivisor_7 rfl ?_
        refine x_iload_n (pc := 8) C 0 dX11_commonDivisor_8 rfl ?_
        refine x_irem (pc := 9) C dX11_commonDivisor_9 (fun hh => by have := nI_toInt (n := n - i) (by omega); rw [hh] at this; simp at this; omega) ?_
        refine x_eq (show (nI g) - (nI g) / (nI (n - i)) * (nI (n - i)) = nI (g % (n - i)) from (pk_rem (by omega) (by omega) (by omega))) ?_
        refine x_if_ne (pc := 10) C 21 dX11_commonDivisor_10 (by decide) (fun h10 => ?_) (fun h10 => ?_)
        · refine x_iinc (pc := 21) (v := (nI (n - i)) + (-1)) (L' := [(2, .int ((nI (n - i)) + (-1))), (0, .int (nI g)), (1, .int (nI n))]) C 0 dX11_commonDivisor_21 rfl rfl (by decide) rfl ?_
          refine x_goto (pc := 24) C 2 dX11_commonDivisor_24 (by decide) ?_
          refine x_sub [0, 1, 2] rfl ?_
          exact ih (i + 1) _ (by omega) (nI_sub1 (by omega)) (by rw [← hc, cdF, if_neg (by rw [hd2]; exact fun hh => h10 (by rw [hh.1]; rfl))])
        · refine x_iload_n (pc := 13) C 2 dX11_commonDivisor_13 rfl ?_
          refine x_iload_n (pc := 14) C 0 dX11_commonDivisor_14 rfl ?_
          refine x_irem (pc := 15) C dX11_commonDivisor_15 (fun hh => by have := nI_toInt (n := n - i) (by omega); rw [hh] at this; simp at this; omega) ?_
          refine x_eq (show (nI n) - (nI n) / (nI (n - i)) * (nI (n - i)) = nI (n % (n - i)) from (pk_rem (by omega) (by omega) (by omega))) ?_
          refine x_if_ne (pc := 16) C 21 dX11_commonDivisor_16 (by decide) (fun h16 => ?_) (fun h16 => ?_)
          · refine x_iinc (pc := 21) (v := (nI (n - i)) + (-1)) (L' := [(2, .int ((nI (n - i)) + (-1))), (0, .int (nI g)), (1, .int (nI n))]) C 0 dX11_commonDivisor_21 rfl rfl (by decide) rfl ?_
            refine x_goto (pc := 24) C 2 dX11_commonDivisor_24 (by decide) ?_
            refine x_sub [0, 1, 2] rfl ?_
            exact ih (i + 1) _ (by omega) (nI_sub1 (by omega)) (by rw [← hc, cdF, if_neg (by rw [hd2]; exact fun hh => h16 (by rw [hh.2]; rfl))])
          · refine x_iload_n (pc := 19) C 0 dX11_commonDivisor_19 rfl ?_
            exact x_iret (pc := 20) C X dX11_commonDivisor_20 ⟨by rw [← hc, cdF, if_pos (by rw [hd2]; exact ⟨(nI_eq (by have := Nat.mod_lt g (show 0 < n - i by omega); omega) (by decide)).mp h10, (nI_eq (by have := Nat.mod_lt n (show 0 < n - i by omega); omega) (by decide)).mp h16⟩), hd2], rfl⟩
  refine x_sub [0, 1, 2] rfl ?_
  exact loop2 (n - 1) 0 _ (by omega) rfl rfl

def chF (σ : SV) (s : Int32) : Nat → Nat
  | 0 => 0
  | i + 1 => if vOr (sV σ) (bt (sSt σ (s + nI i))) = vOr (sV σ) (bt (sRs σ)) then chF σ s i + 1 else chF σ s i
theorem chF_le (σ : SV) (s : Int32) (i : Nat) : chF σ s i ≤ i := by
  induction i with
  | zero => exact Nat.le_refl _
  | succ i ih =>
    rw [chF]
    split
    · omega
    · omega
def a_chance (σ : SV) (s n p : Int32) : Int64 :=
  if inB n 21 = false ∨ n = 0 ∨ inB p 2 = false then -4611686018427387904
  else if p = 0 then (nI (chF σ s (oN n)) / nI (cdF (chF σ s (oN n)) (oN n) (oN n - 1))).toInt64
  else (n / nI (cdF (chF σ s (oN n)) (oN n) (oN n - 1))).toInt64
def lR (σ : SV) (x : Int64) : XF := fun r M' => r = some (.long x) ∧ RC σ M'
theorem fil {σ : SV} {x y : Int64} {M' : MM} (e : y = x) (h : RC σ M') : lR σ y (some (.long x)) M' := by
  subst e
  exact ⟨rfl, h⟩
theorem cdF_pos (g n : Nat) : ∀ d, 1 ≤ cdF g n d ∧ cdF g n d ≤ d + 1 := by
  intro d
  induction d with
  | zero => exact ⟨Nat.le_refl _, Nat.le_refl _⟩
  | succ d ih =>
    rw [cdF]
    split
    · omega
    · omega
set_option maxRecDepth 100000 in
set_option maxHeartbeats 800000 in
theorem c_X11_chance (t : CT) {σ : SV} {M : MM} (h : RC σ M)(x1 x2 x3 : Int32) : XMet (wC t) yX11_chance cX11_chance 7 (some .long) 7 [.ref (t.1 0), .int x1, .int x2, .int x3] M (lR σ (a_chance σ x1 x2 x3)) := by
  refine x_met RX11 (by decide) rfl (Nat.le_of_ble_eq_true rfl) (fun κ C X E => ?_)
  refine x_L (L' := [(0, .ref (t.1 0)), (1, .int x1), (2, .int x2), (3, .int x3)]) rfl ?_
  have hn6 := rc_n6 h
  have hq6 := rc_q6 h
  have hq := rc_q h
  have hN6 := h.1.1
  have hB := h.1.2.1
  refine x_iload_n (pc := 0) C 2 dX11_chance_0 rfl ?_
  refine x_iconst (pc := 1) (v := 1) C dX11_chance_1 rfl ?_
  refine x_icmp_lt (pc := 2) C 20 dX11_chance_2 (by decide) (fun h2 => ?_) (fun h2 => ?_)
  · refine x_ldc2 (pc := 20) (v := (-4611686018427387904)) C q44_18 dX11_chance_20 ?_
    exact x_lret (pc := 23) C X dX11_chance_23 (fil (by
          unfold a_chance
          repeat (first | with_reducible rfl | (refine (if_pos ?_).trans ?_; ((try simp only [inB_t, inB_f, i_lt, i_le, i_eq, ne_eq, Bool.not_eq_true, Bool.not_eq_false, hpB, decide_eq_true_eq, decide_eq_false_iff_not, li_0, li_1, li_2, li_3, li_4, li_5, li_6, li_7, li_8, li_9, li_10, li_20, li_40, li_99, li_100, li_255, li_899, li_999, li_m1, li_m2, li_m3, li_m4, li_m11, li_m12, li_m13, li_m14, li_m100] at h2 ⊢) <;> omega)) | (refine (if_neg ?_).trans ?_; ((try simp only [inB_t, inB_f, i_lt, i_le, i_eq, ne_eq, Bool.not_eq_true, Bool.not_eq_false, hpB, decide_eq_true_eq, decide_eq_false_iff_not, li_0, li_1, li_2, li_3, li_4, li_5, li_6, li_7, li_8, li_9, li_10, li_20, li_40, li_99, li_100, li_255, li_899, li_999, li_m1, li_m2, li_m3, li_m4, li_m11, li_m12, li_m13, li_m14, li_m100] at h2 ⊢) <;> omega)) | fail)
          all_goals (first | with_reducible rfl | (exfalso; ((try simp only [inB_t, inB_f, i_lt, i_le, i_eq, ne_eq, Bool.not_eq_true, Bool.not_eq_false, hpB, decide_eq_true_eq, decide_eq_false_iff_not, li_0, li_1, li_2, li_3, li_4, li_5, li_6, li_7, li_8, li_9, li_10, li_20, li_40, li_99, li_100, li_255, li_899, li_999, li_m1, li_m2, li_m3, li_m4, li_m11, li_m12, li_m13, li_m14, li_m100] at h2 ⊢) <;> omega)))) h)
  · refine x_iload_n (pc := 5) C 2 dX11_chance_5 rfl ?_
    refine x_bipush (pc := 6) (v := 20) C dX11_chance_6 rfl ?_
    refine x_icmp_gt (pc := 8) C 20 dX11_chance_8 (by decide) (fun h8 => ?_) (fun h8 => ?_)
    · refine x_ldc2 (pc := 20) (v := (-4611686018427387904)) C q44_18 dX11_chance_20 ?_
      exact x_lret (pc := 23) C X dX11_chance_23 (fil (by
            unfold a_chance
            repeat (first | with_reducible rfl | (refine (if_pos ?_).trans ?_; ((try simp only [inB_t, inB_f, i_lt, i_le, i_eq, ne_eq, Bool.not_eq_true, Bool.not_eq_false, hpB, decide_eq_true_eq, decide_eq_false_iff_not, li_0, li_1, li_2, li_3, li_4, li_5, li_6, li_7, li_8, li_9, li_10, li_20, li_40, li_99, li_100, li_255, li_899, li_999, li_m1, li_m2, li_m3, li_m4, li_m11, li_m12, li_m13, li_m14, li_m100] at h2 h8 ⊢) <;> omega)) | (refine (if_neg ?_).trans ?_; ((try simp only [inB_t, inB_f, i_lt, i_le, i_eq, ne_eq, Bool.not_eq_true, Bool.not_eq_false, hpB, decide_eq_true_eq, decide_eq_false_iff_not, li_0, li_1, li_2, li_3, li_4, li_5, li_6, li_7, li_8, li_9, li_10, li_20, li_40, li_99, li_100, li_255, li_899, li_999, li_m1, li_m2, li_m3, li_m4, li_m11, li_m12, li_m13, li_m14, li_m100] at h2 h8 ⊢) <;> omega)) | fail)
            all_goals (first | with_reducible rfl | (exfalso; ((try simp only [inB_t, inB_f, i_lt, i_le, i_eq, ne_eq, Bool.not_eq_true, Bool.not_eq_false, hpB, decide_eq_true_eq, decide_eq_false_iff_not, li_0, li_1, li_2, li_3, li_4, li_5, li_6, li_7, li_8, li_9, li_10, li_20, li_40, li_99, li_100, li_255, li_899, li_999, li_m1, li_m2, li_m3, li_m4, li_m11, li_m12, li_m13, li_m14, li_m100] at h2 h8 ⊢) <;> omega)))) h)
    · refine x_iload_n (pc := 11) C 3 dX11_chance_11 rfl ?_
      refine x_if_lt (pc := 12) C 20 dX11_chance_12 (by decide) (fun h12 => ?_) (fun h12 => ?_)
      · refine x_ldc2 (pc := 20) (v := (-4611686018427387904)) C q44_18 dX11_chance_20 ?_
        exact x_lret (pc := 23) C X dX11_chance_23 (fil (by
              unfold a_chance
              repeat (first | with_reducible rfl | (refine (if_pos ?_).trans ?_; ((try simp only [inB_t, inB_f, i_lt, i_le, i_eq, ne_eq, Bool.not_eq_true, Bool.not_eq_false, hpB, decide_eq_true_eq, decide_eq_false_iff_not, li_0, li_1, li_2, li_3, li_4, li_5, li_6, li_7, li_8, li_9, li_10, li_20, li_40, li_99, li_100, li_255, li_899, li_999, li_m1, li_m2, li_m3, li_m4, li_m11, li_m12, li_m13, li_m14, li_m100] at h2 h8 h12 ⊢) <;> omega)) | (refine (if_neg ?_).trans ?_; ((try simp only [inB_t, inB_f, i_lt, i_le, i_eq, ne_eq, Bool.not_eq_true, Bool.not_eq_false, hpB, decide_eq_true_eq, decide_eq_false_iff_not, li_0, li_1, li_2, li_3, li_4, li_5, li_6, li_7, li_8, li_9, li_10, li_20, li_40, li_99, li_100, li_255, li_899, li_999, li_m1, li_m2, li_m3, li_m4, li_m11, li_m12, li_m13, li_m14, li_m100] at h2 h8 h12 ⊢) <;> omega)) | fail)
              all_goals (first | with_reducible rfl | (exfalso; ((try simp only [inB_t, inB_f, i_lt, i_le, i_eq, ne_eq, Bool.not_eq_true, Bool.not_eq_false, hpB, decide_eq_true_eq, decide_eq_false_iff_not, li_0, li_1, li_2, li_3, li_4, li_5, li_6, li_7, li_8, li_9, li_10, li_20, li_40, li_99, li_100, li_255, li_899, li_999, li_m1, li_m2, li_m3, li_m4, li_m11, li_m12, li_m13, li_m14, li_m100] at h2 h8 h12 ⊢) <;> omega)))) h)
      · refine x_iload_n (pc := 15) C 3 dX11_chance_15 rfl ?_
        refine x_iconst (pc := 16) (v := 1) C dX11_chance_16 rfl ?_
        refine x_icmp_le (pc := 17) C 24 dX11_chance_17 (by decide) (fun h17 => ?_) (fun h17 => ?_)
        · have hk2 : inB x2 21 = true := (by ((try simp only [inB_t, inB_f, i_lt, i_le, i_eq, ne_eq, Bool.not_eq_true, Bool.not_eq_false, hpB, decide_eq_true_eq, decide_eq_false_iff_not, li_0, li_1, li_2, li_3, li_4, li_5, li_6, li_7, li_8, li_9, li_10, li_20, li_40, li_99, li_100, li_255, li_899, li_999, li_m1, li_m2, li_m3, li_m4, li_m11, li_m12, li_m13, li_m14, li_m100] at h2 h8 h12 h17 ⊢) <;> omega))
          obtain ⟨n, hn, en⟩ := inB_of hk2 (by omega)
          have htn := nI_toInt (n := n) (by omega)
          have hon := oN_nI (n := n) (by omega)
          subst en
          have hn1 : 1 ≤ n := (by ((try simp only [inB_t, inB_f, i_lt, i_le, i_eq, ne_eq, Bool.not_eq_true, Bool.not_eq_false, hpB, decide_eq_true_eq, decide_eq_false_iff_not, li_0, li_1, li_2, li_3, li_4, li_5, li_6, li_7, li_8, li_9, li_10, li_20, li_40, li_99, li_100, li_255, li_899, li_999, li_m1, li_m2, li_m3, li_m4, li_m11, li_m12, li_m13, li_m14, li_m100] at h2 h8 h12 h17 htn ⊢) <;> omega))
          refine x_aload_n (pc := 24) C 0 dX11_chance_24 rfl ?_
          refine g_main_now (pc := 25) C E q2_1 dX11_chance_25 ?_
          refine x_aload_n (pc := 28) C 0 dX11_chance_28 rfl ?_
          refine g_main_now (pc := 29) C E q2_1 dX11_chance_29 ?_
          refine x_callV (pc := 32) C E [] [.ref (t.1 (7 + 0))] (w_readers t (by decide : 0 < 3) h.2.1 ) m_X10_readers q33_22 (xo_World (i := 0) (by omega)) rfl (by decide) (Nat.le_of_ble_eq_true rfl) dX11_chance_32 rfl (k_I ?_)
          refine x_eq (show mk (vRd (sV σ)) (vN (sV σ)) = sRs σ from rfl) ?_
          refine x_callV (pc := 35) C E [.int (sRs σ)] [] (w_filesOn t (by decide : 0 < 3) h.2.1 _) m_X10_filesOn q33_23 (xo_World (i := 0) (by omega)) rfl (by decide) (Nat.le_of_ble_eq_true rfl) dX11_chance_35 rfl (k_I ?_)
          refine x_istore (pc := 38) (L' := [(4, .int (vOr (sV σ) (bt (sRs σ)))), (0, .ref (t.1 0)), (1, .int x1), (2, .int (nI n)), (3, .int x3)]) C dX11_chance_38 (by decide) rfl ?_
          refine x_iconst (pc := 40) (v := (nI 0)) C dX11_chance_40 (by decide) ?_
          refine x_istore (pc := 41) (L' := [(5, .int (nI 0)), (4, .int (vOr (sV σ) (bt (sRs σ)))), (0, .ref (t.1 0)), (1, .int x1), (2, .int (nI n)), (3, .int x3)]) C dX11_chance_41 (by decide) rfl ?_
          refine x_iconst (pc := 43) (v := (nI 0)) C dX11_chance_43 (by decide) ?_
          refine x_istore (pc := 44) (L' := [(6, .int (nI 0)), (5, .int (nI 0)), (4, .int (vOr (sV σ) (bt (sRs σ)))), (0, .ref (t.1 0)), (1, .int x1), (2, .int (nI n)), (3, .int x3)]) C dX11_chance_44 (by decide) rfl ?_
          have loop46 : ∀ (k i : Nat) (g : Int32) (y : Int32) (Mx : MM) , i + k = n → g = nI (chF σ x1 i) → y = nI i → RC σ Mx → XV κ (xP (wC t) Mx) 46 [(6, .int y), (5, .int g), (4, .int (vOr (sV σ) (bt (sRs σ)))), (0, .ref (t.1 0)), (1, .int x1), (2, .int (nI n)), (3, .int x3)] [] := by
            intro k
            induction k with
              | zero =>
                intro i g y Mx  hcnt eg ey eMx
                subst eg
                subst ey
                obtain rfl : n = i := by omega
                refine x_iload (pc := 46) C 0 dX11_chance_46 rfl ?_
                refine x_iload_n (pc := 48) C 5 dX11_chance_48 rfl ?_
                refine x_icmp_ge_t (pc := 49) C 81 dX11_chance_49 (by decide) (nI_le (by omega) (by omega)) ?_
                refine x_iload (pc := 81) C 1 dX11_chance_81 rfl ?_
                refine x_iload_n (pc := 83) C 5 dX11_chance_83 rfl ?_
                refine x_callS (pc := 84) C E [.int (nI (chF σ x1 n)), .int (nI n)] [] (c_X11_commonDivisor t _ (g := chF σ x1 n) (n := n) (chF_le σ x1 n) (by omega) (by omega)) m_X11_commonDivisor q44_19 rfl (by decide) (Nat.le_of_ble_eq_true rfl) dX11_chance_84 rfl (k_I ?_)
                refine x_istore (pc := 87) (L' := [(6, .int (nI (cdF (chF σ x1 n) n (n - 1)))), (5, .int (nI (chF σ x1 n))), (4, .int (vOr (sV σ) (bt (sRs σ)))), (0, .ref (t.1 0)), (1, .int x1), (2, .int (nI n)), (3, .int x3)]) C dX11_chance_87 (by decide) rfl ?_
                refine x_iload_n (pc := 89) C 6 dX11_chance_89 rfl ?_
                refine x_if_ne (pc := 90) C 102 dX11_chance_90 (by decide) (fun h90 => ?_) (fun h90 => ?_)
                · refine x_iload_n (pc := 102) C 5 dX11_chance_102 rfl ?_
                  refine x_iload (pc := 103) C 0 dX11_chance_103 rfl ?_
                  refine x_idiv (pc := 105) C dX11_chance_105 (fun hh => by have hc := cdF_pos (chF σ x1 n) n (n - 1); have := nI_toInt (n := cdF (chF σ x1 n) n (n - 1)) (by omega); rw [hh] at this; simp at this; omega) ?_
                  refine x_i2l (pc := 106) C dX11_chance_106 ?_
                  exact x_lret (pc := 107) C X dX11_chance_107 (fil (by
                        unfold a_chance
                        simp only [hon]
                        repeat (first | with_reducible rfl | (refine (if_pos ?_).trans ?_; ((try simp only [inB_t, inB_f, i_lt, i_le, i_eq, ne_eq, Bool.not_eq_true, Bool.not_eq_false, hpB, decide_eq_true_eq, decide_eq_false_iff_not, li_0, li_1, li_2, li_3, li_4, li_5, li_6, li_7, li_8, li_9, li_10, li_20, li_40, li_99, li_100, li_255, li_899, li_999, li_m1, li_m2, li_m3, li_m4, li_m11, li_m12, li_m13, li_m14, li_m100] at h2 h8 h12 h17 htn h90 ⊢) <;> omega)) | (refine (if_neg ?_).trans ?_; ((try simp only [inB_t, inB_f, i_lt, i_le, i_eq, ne_eq, Bool.not_eq_true, Bool.not_eq_false, hpB, decide_eq_true_eq, decide_eq_false_iff_not, li_0, li_1, li_2, li_3, li_4, li_5, li_6, li_7, li_8, li_9, li_10, li_20, li_40, li_99, li_100, li_255, li_899, li_999, li_m1, li_m2, li_m3, li_m4, li_m11, li_m12, li_m13, li_m14, li_m100] at h2 h8 h12 h17 htn h90 ⊢) <;> omega)) | fail)
                        all_goals (first | with_reducible rfl | (exfalso; ((try simp only [inB_t, inB_f, i_lt, i_le, i_eq, ne_eq, Bool.not_eq_true, Bool.not_eq_false, hpB, decide_eq_true_eq, decide_eq_false_iff_not, li_0, li_1, li_2, li_3, li_4, li_5, li_6, li_7, li_8, li_9, li_10, li_20, li_40, li_99, li_100, li_255, li_899, li_999, li_m1, li_m2, li_m3, li_m4, li_m11, li_m12, li_m13, li_m14, li_m100] at h2 h8 h12 h17 htn h90 ⊢) <;> omega)))) eMx)
                · refine x_iload (pc := 93) C 1 dX11_chance_93 rfl ?_
                  refine x_iload (pc := 95) C 0 dX11_chance_95 rfl ?_
                  refine x_idiv (pc := 97) C dX11_chance_97 (fun hh => by have hc := cdF_pos (chF σ x1 n) n (n - 1); have := nI_toInt (n := cdF (chF σ x1 n) n (n - 1)) (by omega); rw [hh] at this; simp at this; omega) ?_
                  refine x_i2l (pc := 98) C dX11_chance_98 ?_
                  refine x_goto (pc := 99) C 107 dX11_chance_99 (by decide) ?_
                  exact x_lret (pc := 107) C X dX11_chance_107 (fil (by
                        unfold a_chance
                        simp only [hon]
                        repeat (first | with_reducible rfl | (refine (if_pos ?_).trans ?_; ((try simp only [inB_t, inB_f, i_lt, i_le, i_eq, ne_eq, Bool.not_eq_true, Bool.not_eq_false, hpB, decide_eq_true_eq, decide_eq_false_iff_not, li_0, li_1, li_2, li_3, li_4, li_5, li_6, li_7, li_8, li_9, li_10, li_20, li_40, li_99, li_100, li_255, li_899, li_999, li_m1, li_m2, li_m3, li_m4, li_m11, li_m12, li_m13, li_m14, li_m100] at h2 h8 h12 h17 htn h90 ⊢) <;> omega)) | (refine (if_neg ?_).trans ?_; ((try simp only [inB_t, inB_f, i_lt, i_le, i_eq, ne_eq, Bool.not_eq_true, Bool.not_eq_false, hpB, decide_eq_true_eq, decide_eq_false_iff_not, li_0, li_1, li_2, li_3, li_4, li_5, li_6, li_7, li_8, li_9, li_10, li_20, li_40, li_99, li_100, li_255, li_899, li_999, li_m1, li_m2, li_m3, li_m4, li_m11, li_m12, li_m13, li_m14, li_m100] at h2 h8 h12 h17 htn h90 ⊢) <;> omega)) | fail)
                        all_goals (first | with_reducible rfl | (exfalso; ((try simp only [inB_t, inB_f, i_lt, i_le, i_eq, ne_eq, Bool.not_eq_true, Bool.not_eq_false, hpB, decide_eq_true_eq, decide_eq_false_iff_not, li_0, li_1, li_2, li_3, li_4, li_5, li_6, li_7, li_8, li_9, li_10, li_20, li_40, li_99, li_100, li_255, li_899, li_999, li_m1, li_m2, li_m3, li_m4, li_m11, li_m12, li_m13, li_m14, li_m100] at h2 h8 h12 h17 htn h90 ⊢) <;> omega)))) eMx)
              | succ k ih =>
                intro i g y Mx  hcnt eg ey eMx
                subst eg
                subst ey
                have hi46 : i < n := by omega
                refine x_iload (pc := 46) C 0 dX11_chance_46 rfl ?_
                refine x_iload_n (pc := 48) C 5 dX11_chance_48 rfl ?_
                refine x_icmp_ge_f (pc := 49) C 81 dX11_chance_49 (by decide) (nI_ge (by omega) (by omega)) ?_
                refine x_aload_n (pc := 52) C 3 dX11_chance_52 rfl ?_
                refine g_main_now (pc := 53) C E q2_1 dX11_chance_53 ?_
                refine x_aload_n (pc := 56) C 3 dX11_chance_56 rfl ?_
                refine x_iload_n (pc := 57) C 4 dX11_chance_57 rfl ?_
                refine x_iload (pc := 58) C 0 dX11_chance_58 rfl ?_
                refine x_iadd (pc := 60) C dX11_chance_60 ?_
                refine x_callV (pc := 61) C E [.int (x1 + (nI i))] [.ref (t.1 (7 + 0))] (c_X11_stayers t eMx _) m_X11_stayers q44_0 xo_main rfl (by decide) (Nat.le_of_ble_eq_true rfl) dX11_chance_61 rfl (fun r M61 hc61 => ?_)
                obtain ⟨rfl, hR61⟩ := hc61
                show XV κ (xP (wC t) M61) 64 _ [.int (sSt σ (x1 + (nI i))), .ref (t.1 (7 + 0))]
                refine x_callV (pc := 64) C E [.int (sSt σ (x1 + (nI i)))] [] (w_filesOn t (by decide : 0 < 3) hR61.2.1 _) m_X10_filesOn q33_23 (xo_World (i := 0) (by omega)) rfl (by decide) (Nat.le_of_ble_eq_true rfl) dX11_chance_64 rfl (k_I ?_)
                refine x_iload (pc := 67) C 2 dX11_chance_67 rfl ?_
                refine x_icmp_ne (pc := 69) C 75 dX11_chance_69 (by decide) (fun h69 => ?_) (fun h69 => ?_)
                · refine x_iinc (pc := 75) (v := nI (i + 1)) (L' := [(6, .int (nI (i + 1))), (5, .int (nI (chF σ x1 i))), (4, .int (vOr (sV σ) (bt (sRs σ)))), (0, .ref (t.1 0)), (1, .int x1), (2, .int (nI n)), (3, .int x3)]) C 0 dX11_chance_75 rfl (nI_1 _) (by decide) rfl ?_
                  refine x_goto (pc := 78) C 46 dX11_chance_78 (by decide) ?_
                  refine x_sub [0, 1, 2, 3, 4, 5, 6] rfl ?_
                  exact ih (i + 1) _ _ _ (by omega) (by rw [chF, if_neg h69]) rfl (by assumption)
                · refine x_iinc (pc := 72) (v := nI ((chF σ x1 i) + 1)) (L' := [(5, .int (nI ((chF σ x1 i) + 1))), (6, .int (nI i)), (4, .int (vOr (sV σ) (bt (sRs σ)))), (0, .ref (t.1 0)), (1, .int x1), (2, .int (nI n)), (3, .int x3)]) C 1 dX11_chance_72 rfl (nI_1 _) (by decide) rfl ?_
                  refine x_iinc (pc := 75) (v := nI (i + 1)) (L' := [(6, .int (nI (i + 1))), (5, .int (nI ((chF σ x1 i) + 1))), (4, .int (vOr (sV σ) (bt (sRs σ)))), (0, .ref (t.1 0)), (1, .int x1), (2, .int (nI n)), (3, .int x3)]) C 1 dX11_chance_75 rfl (nI_1 _) (by decide) rfl ?_
                  refine x_goto (pc := 78) C 46 dX11_chance_78 (by decide) ?_
                  refine x_sub [0, 1, 2, 3, 4, 5, 6] rfl ?_
                  exact ih (i + 1) _ _ _ (by omega) (by rw [chF, if_pos h69]) rfl (by assumption)
          refine x_sub [0, 1, 2, 3, 4, 5, 6] rfl ?_
          exact loop46 n 0 _ _ M (by omega) rfl rfl h
        · refine x_ldc2 (pc := 20) (v := (-4611686018427387904)) C q44_18 dX11_chance_20 ?_
          exact x_lret (pc := 23) C X dX11_chance_23 (fil (by
                unfold a_chance
                repeat (first | with_reducible rfl | (refine (if_pos ?_).trans ?_; ((try simp only [inB_t, inB_f, i_lt, i_le, i_eq, ne_eq, Bool.not_eq_true, Bool.not_eq_false, hpB, decide_eq_true_eq, decide_eq_false_iff_not, li_0, li_1, li_2, li_3, li_4, li_5, li_6, li_7, li_8, li_9, li_10, li_20, li_40, li_99, li_100, li_255, li_899, li_999, li_m1, li_m2, li_m3, li_m4, li_m11, li_m12, li_m13, li_m14, li_m100] at h2 h8 h12 h17 ⊢) <;> omega)) | (refine (if_neg ?_).trans ?_; ((try simp only [inB_t, inB_f, i_lt, i_le, i_eq, ne_eq, Bool.not_eq_true, Bool.not_eq_false, hpB, decide_eq_true_eq, decide_eq_false_iff_not, li_0, li_1, li_2, li_3, li_4, li_5, li_6, li_7, li_8, li_9, li_10, li_20, li_40, li_99, li_100, li_255, li_899, li_999, li_m1, li_m2, li_m3, li_m4, li_m11, li_m12, li_m13, li_m14, li_m100] at h2 h8 h12 h17 ⊢) <;> omega)) | fail)
                all_goals (first | with_reducible rfl | (exfalso; ((try simp only [inB_t, inB_f, i_lt, i_le, i_eq, ne_eq, Bool.not_eq_true, Bool.not_eq_false, hpB, decide_eq_true_eq, decide_eq_false_iff_not, li_0, li_1, li_2, li_3, li_4, li_5, li_6, li_7, li_8, li_9, li_10, li_20, li_40, li_99, li_100, li_255, li_899, li_999, li_m1, li_m2, li_m3, li_m4, li_m11, li_m12, li_m13, li_m14, li_m100] at h2 h8 h12 h17 ⊢) <;> omega)))) h)

