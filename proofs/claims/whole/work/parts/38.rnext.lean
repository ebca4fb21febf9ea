theorem nv_long {Y : Nat → Int32} {p k : Nat} (hk : k < 4) (hd : ∀ i, i < k + 1 → cDig (Y (p + i)) = true) : 10 * Int32.toInt64 (nvF Y p k) + Int32.toInt64 (Y (p + k)) - 48 = Int32.toInt64 (nvF Y p (k + 1)) := by
  obtain ⟨h1, h2⟩ := nvF_le (Y := Y) (p := p) k (by omega) fun i hi => hd i (by omega)
  obtain ⟨g1, g2⟩ := nvF_le (Y := Y) (p := p) (k + 1) (by omega) hd
  have h3 := of_decide_eq_true (hd k (by omega))
  have h4 : (10 : Int) ^ k ≤ 1000 := by
    rcases (by omega : k = 0 ∨ k = 1 ∨ k = 2 ∨ k = 3) with rfl | rfl | rfl | rfl <;> decide
  have e1 : (nvF Y p k * 10).toInt = (nvF Y p k).toInt * 10 := by
    rw [Int32.toInt_mul]
    exact Int.bmod_eq_of_le (by show _ ≤ (nvF Y p k).toInt * 10; omega) (by show (nvF Y p k).toInt * 10 < _; omega)
  have e2 : (nvF Y p k * 10 + Y (p + k)).toInt = (nvF Y p k).toInt * 10 + (Y (p + k)).toInt := by
    rw [Int32.toInt_add, e1]
    exact Int.bmod_eq_of_le (by omega) (by omega)
  have e3 : (nvF Y p (k + 1)).toInt = (nvF Y p k).toInt * 10 + (Y (p + k)).toInt - 48 := by
    rw [nvF, Int32.toInt_sub, e2]
    exact Int.bmod_eq_of_le (by show _ ≤ _ - (48 : Int); omega) (by show _ - (48 : Int) < _; omega)
  apply Int64.toInt_inj.mp
  rw [Int32.toInt_toInt64, e3]
  have f1 : (10 * Int32.toInt64 (nvF Y p k)).toInt = 10 * (nvF Y p k).toInt := by
    rw [Int64.toInt_mul, Int32.toInt_toInt64]
    exact Int.bmod_eq_of_le (by show _ ≤ (10 : Int) * _; omega) (by show (10 : Int) * _ < _; omega)
  have f2 : (10 * Int32.toInt64 (nvF Y p k) + Int32.toInt64 (Y (p + k))).toInt = 10 * (nvF Y p k).toInt + (Y (p + k)).toInt := by
    rw [Int64.toInt_add, f1, Int32.toInt_toInt64]
    exact Int.bmod_eq_of_le (by omega) (by omega)
  rw [Int64.toInt_sub, f2]
  have f3 : (48 : Int64).toInt = 48 := rfl
  rw [f3, Int.bmod_eq_of_le (by omega) (by omega)]
  omega
set_option maxRecDepth 100000 in
set_option maxHeartbeats 800000 in
theorem c_X12_next (t : CT) {M : MM} {Y : Nat → Int32} {n q : Nat} (hR : TR Y n q M) {x : Nat} (hx : M 0 21 = nI x) (hxn : x ≤ n) : XMet (wR t) yX12_next cX12_next 3 none 2 [.ref (t.1 0)] M (fun r M' => r = none ∧ TkR Y n x M' ∧ Sn M M') := by
  refine x_met RX12 (by decide) rfl (Nat.le_of_ble_eq_true rfl) (fun κ C X E => ?_)
  refine x_L (L' := [(0, .ref (t.1 0))]) rfl ?_
  have h160 := hR.1
  have hq6 := hR.2.1
  have hbd := tkP_le (Y := Y) hxn
  have loop0 : ∀ (k i : Nat) (Mx : MM) , i + k = n → (Mx 0 21 = nI i ∧ ∀ a b, (a ≠ 0 ∨ b ≠ 21) → Mx a b = M a b) → rnT (tBl Y) n i = tkP Y n x → XV κ (xP (wR t) Mx) 0 [(0, .ref (t.1 0))] [] := by
    intro k
    induction k with
      | zero =>
        intro i  Mx  hcnt  eMx hg
        obtain rfl : n = i := by omega
        refine x_aload_n (pc := 0) C 0 dX12_next_0 rfl ?_
        refine x_aload_n (pc := 1) C 0 dX12_next_1 rfl ?_
        refine g_M_here (pc := 2) C E q15_9 dX12_next_2 ?_
        refine x_eq (show Mx 0 21 = nI n from eMx.1) ?_
        refine x_callV (pc := 5) C E [.int (nI n)] [] (c_X12_byteAt t (M := Mx) (tr_sp hR (fun a b g => eMx.2 a b (by omega))) (x := n) (by omega)) m_X12_byteAt q16_0 xo_M rfl (by decide) (Nat.le_of_ble_eq_true rfl) dX12_next_5 rfl (k_I ?_)
        refine x_eq (show bA Y n n = -1 from (by unfold bA; rw [if_neg (by omega)])) ?_
        refine x_bipush (pc := 8) (v := 32) C dX12_next_8 rfl ?_
        refine x_icmp_eq_f (pc := 10) C 26 dX12_next_10 (by decide) (by decide) ?_
        refine x_aload_n (pc := 13) C 0 dX12_next_13 rfl ?_
        refine x_aload_n (pc := 14) C 0 dX12_next_14 rfl ?_
        refine g_M_here (pc := 15) C E q15_9 dX12_next_15 ?_
        refine x_eq (show Mx 0 21 = nI n from eMx.1) ?_
        refine x_callV (pc := 18) C E [.int (nI n)] [] (c_X12_byteAt t (M := Mx) (tr_sp hR (fun a b g => eMx.2 a b (by omega))) (x := n) (by omega)) m_X12_byteAt q16_0 xo_M rfl (by decide) (Nat.le_of_ble_eq_true rfl) dX12_next_18 rfl (k_I ?_)
        refine x_eq (show bA Y n n = -1 from (by unfold bA; rw [if_neg (by omega)])) ?_
        refine x_bipush (pc := 21) (v := 10) C dX12_next_21 rfl ?_
        refine x_icmp_ne_t (pc := 23) C 39 dX12_next_23 (by decide) (by decide) ?_
        have hie : n = tkP Y n x := Eq.trans (rnT_n (Nat.le_refl _)).symm hg
        have e4 : Mx 0 21 = nI (tkP Y n x) := eMx.1.trans (congrArg nI hie)
        refine x_aload_n (pc := 39) C 0 dX12_next_39 rfl ?_
        refine x_aload_n (pc := 40) C 0 dX12_next_40 rfl ?_
        refine g_M_here (pc := 41) C E q15_9 dX12_next_41 ?_
        refine x_eq (show Mx 0 21 = nI (tkP Y n x) from e4) ?_
        refine p_M_tokenAt (pc := 44) C E q15_17 dX12_next_44 ?_
        refine x_aload_n (pc := 47) C 0 dX12_next_47 rfl ?_
        refine x_aload_n (pc := 48) C 0 dX12_next_48 rfl ?_
        refine g_M_here (pc := 49) C E q15_9 dX12_next_49 ?_
        refine x_eq (show (mu Mx 0 23 (nI (tkP Y n x))) 0 21 = nI (tkP Y n x) from ((mu_k _ _ _ _ (by decide)).trans e4)) ?_
        refine x_callV (pc := 52) C E [.int (nI (tkP Y n x))] [] (c_X12_byteAt t (M := mu Mx 0 23 (nI (tkP Y n x))) (tr_sp (tr_sp hR (fun a b g => eMx.2 a b (by omega))) (fun a b g => by rw [mu_at, if_neg (by omega)])) (x := tkP Y n x) (by omega)) m_X12_byteAt q16_0 xo_M rfl (by decide) (Nat.le_of_ble_eq_true rfl) dX12_next_52 rfl (k_I ?_)
        refine x_eq (show bA Y n (tkP Y n x) = -1 from (by unfold bA; rw [if_neg (by omega)])) ?_
        refine x_istore_n (pc := 55) (L' := [(1, .int (-1)), (0, .ref (t.1 0))]) C dX12_next_55 (by decide) rfl ?_
        refine x_aload_n (pc := 56) C 1 dX12_next_56 rfl ?_
        refine x_iconst (pc := 57) (v := (nI 4)) C dX12_next_57 (by decide) ?_
        refine p_M_token (pc := 58) C E q15_12 dX12_next_58 ?_
        refine x_iload_n (pc := 61) C 0 dX12_next_61 rfl ?_
        refine x_if_ge_f (pc := 62) C 81 dX12_next_62 (by decide) (by decide) ?_
        refine x_aload_n (pc := 65) C 1 dX12_next_65 rfl ?_
        refine x_iconst (pc := 66) (v := (nI 0)) C dX12_next_66 (by decide) ?_
        refine p_M_token (pc := 67) C E q15_12 dX12_next_67 ?_
        refine x_aload_n (pc := 70) C 1 dX12_next_70 rfl ?_
        refine x_aload_n (pc := 71) C 1 dX12_next_71 rfl ?_
        refine g_M_size (pc := 72) C E q15_8 dX12_next_72 ?_
        refine x_eq (show (mu (mu (mu Mx 0 23 (nI (tkP Y n x))) 0 22 (nI 4)) 0 22 (nI 0)) 0 20 = nI n from ((mu_k _ _ _ _ (by decide)).trans ((mu_k _ _ _ _ (by decide)).trans ((mu_k _ _ _ _ (by decide)).trans ((eMx.2 _ _ (by omega)).trans hR.2.2.2.1))))) ?_
        refine p_M_tokenAt (pc := 75) C E q15_17 dX12_next_75 ?_
        refine x_goto (pc := 78) C 321 dX12_next_78 (by decide) ?_
        exact x_vret (pc := 321) C X dX12_next_321 ⟨rfl, ⟨((mu_s _ _ _ _)).trans (congrArg nI hie), (((mu_k _ _ _ _ (by decide)).trans (mu_s _ _ _ _))).trans (rt_end (Y := Y) (x := x) (by omega)).symm, fun _ => (((mu_k _ _ _ _ (by decide)).trans ((mu_k _ _ _ _ (by decide)).trans ((mu_k _ _ _ _ (by decide)).trans ((mu_k _ _ _ _ (by decide)).trans e4))))).trans (by rw [(tk_end (Y := Y) (x := x) (by omega)).1]), fun g => absurd ((rt_end (Y := Y) (x := x) (by omega)).symm.trans g) (by decide), fun g => absurd ((rt_end (Y := Y) (x := x) (by omega)).symm.trans g) (by decide)⟩, (fun a b hab => (by rw [mu_at, if_neg (by omega), mu_at, if_neg (by omega), mu_at, if_neg (by omega), mu_at, if_neg (by omega)]; exact eMx.2 a b (by omega)))⟩
      | succ k ih =>
        intro i  Mx  hcnt  eMx hg
        have hi0 : i < n := by omega
        refine x_aload_n (pc := 0) C 0 dX12_next_0 rfl ?_
        refine x_aload_n (pc := 1) C 0 dX12_next_1 rfl ?_
        refine g_M_here (pc := 2) C E q15_9 dX12_next_2 ?_
        refine x_eq (show Mx 0 21 = nI i from eMx.1) ?_
        refine x_callV (pc := 5) C E [.int (nI i)] [] (c_X12_byteAt t (M := Mx) (tr_sp hR (fun a b g => eMx.2 a b (by omega))) (x := i) (by omega)) m_X12_byteAt q16_0 xo_M rfl (by decide) (Nat.le_of_ble_eq_true rfl) dX12_next_5 rfl (k_I ?_)
        refine x_eq (show bA Y n i = Y i from (by unfold bA; rw [if_pos (by omega)])) ?_
        refine x_bipush (pc := 8) (v := 32) C dX12_next_8 rfl ?_
        refine x_icmp_eq (pc := 10) C 26 dX12_next_10 (by decide) (fun h10 => ?_) (fun h10 => ?_)
        · refine x_aload_n (pc := 26) C 0 dX12_next_26 rfl ?_
          refine x_dup (pc := 27) C dX12_next_27 rfl ?_
          refine g_M_here (pc := 28) C E q15_9 dX12_next_28 ?_
          refine x_eq (show Mx 0 21 = nI i from eMx.1) ?_
          refine x_iconst (pc := 31) (v := (nI 1)) C dX12_next_31 (by decide) ?_
          refine x_iadd (pc := 32) C dX12_next_32 ?_
          refine x_eq (show (nI i) + (nI 1) = nI (i + 1) from nI_add _ _) ?_
          refine p_M_here (pc := 33) C E q15_9 dX12_next_33 ?_
          refine x_goto (pc := 36) C 0 dX12_next_36 (by decide) ?_
          refine x_sub [0] rfl ?_
          exact ih (i + 1) _ (by omega) ⟨mu_s _ _ _ _, (fun a b hab => (by rw [mu_at, if_neg (by omega)]; exact eMx.2 a b (by omega)))⟩ (by rw [← hg]; exact (rnT_t (P := tBl Y) hi0 (by unfold tBl; rw [decide_eq_true h10]; rfl)).symm)
        · refine x_aload_n (pc := 13) C 0 dX12_next_13 rfl ?_
          refine x_aload_n (pc := 14) C 0 dX12_next_14 rfl ?_
          refine g_M_here (pc := 15) C E q15_9 dX12_next_15 ?_
          refine x_eq (show Mx 0 21 = nI i from eMx.1) ?_
          refine x_callV (pc := 18) C E [.int (nI i)] [] (c_X12_byteAt t (M := Mx) (tr_sp hR (fun a b g => eMx.2 a b (by omega))) (x := i) (by omega)) m_X12_byteAt q16_0 xo_M rfl (by decide) (Nat.le_of_ble_eq_true rfl) dX12_next_18 rfl (k_I ?_)
          refine x_eq (show bA Y n i = Y i from (by unfold bA; rw [if_pos (by omega)])) ?_
          refine x_bipush (pc := 21) (v := 10) C dX12_next_21 rfl ?_
          refine x_icmp_ne (pc := 23) C 39 dX12_next_23 (by decide) (fun h23 => ?_) (fun h23 => ?_)
          · have hie : i = tkP Y n x := Eq.trans (rnT_f (P := tBl Y) (by unfold tBl; rw [decide_eq_false h10, decide_eq_false h23]; rfl)).symm hg
            have e4 : Mx 0 21 = nI (tkP Y n x) := eMx.1.trans (congrArg nI hie)
            have hlt : tkP Y n x < n := by omega
            have hYp := (hR.2.2.2.2 (tkP Y n x) hlt).2
            refine x_aload_n (pc := 39) C 0 dX12_next_39 rfl ?_
            refine x_aload_n (pc := 40) C 0 dX12_next_40 rfl ?_
            refine g_M_here (pc := 41) C E q15_9 dX12_next_41 ?_
            refine x_eq (show Mx 0 21 = nI (tkP Y n x) from e4) ?_
            refine p_M_tokenAt (pc := 44) C E q15_17 dX12_next_44 ?_
            refine x_aload_n (pc := 47) C 0 dX12_next_47 rfl ?_
            refine x_aload_n (pc := 48) C 0 dX12_next_48 rfl ?_
            refine g_M_here (pc := 49) C E q15_9 dX12_next_49 ?_
            refine x_eq (show (mu Mx 0 23 (nI (tkP Y n x))) 0 21 = nI (tkP Y n x) from ((mu_k _ _ _ _ (by decide)).trans e4)) ?_
            refine x_callV (pc := 52) C E [.int (nI (tkP Y n x))] [] (c_X12_byteAt t (M := mu Mx 0 23 (nI (tkP Y n x))) (tr_sp (tr_sp hR (fun a b g => eMx.2 a b (by omega))) (fun a b g => by rw [mu_at, if_neg (by omega)])) (x := tkP Y n x) (by omega)) m_X12_byteAt q16_0 xo_M rfl (by decide) (Nat.le_of_ble_eq_true rfl) dX12_next_52 rfl (k_I ?_)
            refine x_eq (show bA Y n (tkP Y n x) = Y (tkP Y n x) from (by unfold bA; rw [if_pos (by omega)])) ?_
            refine x_istore_n (pc := 55) (L' := [(1, .int (Y (tkP Y n x))), (0, .ref (t.1 0))]) C dX12_next_55 (by decide) rfl ?_
            refine x_aload_n (pc := 56) C 1 dX12_next_56 rfl ?_
            refine x_iconst (pc := 57) (v := (nI 4)) C dX12_next_57 (by decide) ?_
            refine p_M_token (pc := 58) C E q15_12 dX12_next_58 ?_
            refine x_iload_n (pc := 61) C 0 dX12_next_61 rfl ?_
            refine x_if_ge_t (pc := 62) C 81 dX12_next_62 (by decide) (by rw [i_le]; exact hYp) ?_
            refine x_iload_n (pc := 81) C 0 dX12_next_81 rfl ?_
            refine x_i2l (pc := 82) C dX12_next_82 ?_
            refine x_ldc2 (pc := 83) (v := 97) C q15_18 dX12_next_83 ?_
            refine x_ldc2 (pc := 86) (v := 122) C q15_19 dX12_next_86 ?_
            refine x_callS (pc := 89) C E [.long (Int32.toInt64 (Y (tkP Y n x))), .long 97, .long 122] [] (c_X12_in t _ (Y (tkP Y n x)) (A := 97) (B := 122) (by decide) (by decide)) m_X12_in q13_6 rfl (by decide) (Nat.le_of_ble_eq_true rfl) dX12_next_89 rfl (k_I ?_)
            refine x_eq (show b2i (decide ((97 : Int) ≤ Int32.toInt (Y (tkP Y n x)) ∧ Int32.toInt (Y (tkP Y n x)) ≤ 122)) = b2i (cLet (Y (tkP Y n x))) from rfl) ?_
            refine x_ifb_eq (pc := 92) C 134 dX12_next_92 (by decide) (fun h92 => ?_) (fun h92 => ?_)
            · refine x_iload_n (pc := 134) C 0 dX12_next_134 rfl ?_
              refine x_i2l (pc := 135) C dX12_next_135 ?_
              refine x_ldc2 (pc := 136) (v := 48) C q15_20 dX12_next_136 ?_
              refine x_ldc2 (pc := 139) (v := 57) C q15_21 dX12_next_139 ?_
              refine x_callS (pc := 142) C E [.long (Int32.toInt64 (Y (tkP Y n x))), .long 48, .long 57] [] (c_X12_in t _ (Y (tkP Y n x)) (A := 48) (B := 57) (by decide) (by decide)) m_X12_in q13_6 rfl (by decide) (Nat.le_of_ble_eq_true rfl) dX12_next_142 rfl (k_I ?_)
              refine x_eq (show b2i (decide ((48 : Int) ≤ Int32.toInt (Y (tkP Y n x)) ∧ Int32.toInt (Y (tkP Y n x)) ≤ 57)) = b2i (cDig (Y (tkP Y n x))) from rfl) ?_
              refine x_ifb_eq (pc := 145) C 252 dX12_next_145 (by decide) (fun h145 => ?_) (fun h145 => ?_)
              · refine x_iload_n (pc := 252) C 0 dX12_next_252 rfl ?_
                refine x_bipush (pc := 253) (v := 40) C dX12_next_253 rfl ?_
                refine x_icmp_eq (pc := 255) C 300 dX12_next_255 (by decide) (fun h255 => ?_) (fun h255 => ?_)
                · refine x_aload_n (pc := 300) C 1 dX12_next_300 rfl ?_
                  refine x_iconst (pc := 301) (v := (nI 3)) C dX12_next_301 (by decide) ?_
                  refine p_M_token (pc := 302) C E q15_12 dX12_next_302 ?_
                  refine x_aload_n (pc := 305) C 1 dX12_next_305 rfl ?_
                  refine x_iload_n (pc := 306) C 0 dX12_next_306 rfl ?_
                  refine x_i2l (pc := 307) C dX12_next_307 ?_
                  refine x_eqL (show Int32.toInt64 (Y (tkP Y n x)) = (Y (tkP Y n x)).toInt64 from rfl) ?_
                  refine p_M_tokenWorth (pc := 308) C E (v := (Y (tkP Y n x))) q15_22 dX12_next_308 ?_
                  refine x_aload_n (pc := 311) C 1 dX12_next_311 rfl ?_
                  refine x_dup (pc := 312) C dX12_next_312 rfl ?_
                  refine g_M_here (pc := 313) C E q15_9 dX12_next_313 ?_
                  refine x_eq (show (mu (mu (mu (mu Mx 0 23 (nI (tkP Y n x))) 0 22 (nI 4)) 0 22 (nI 3)) 0 24 ((Y (tkP Y n x)))) 0 21 = nI (tkP Y n x) from ((mu_k _ _ _ _ (by decide)).trans ((mu_k _ _ _ _ (by decide)).trans ((mu_k _ _ _ _ (by decide)).trans ((mu_k _ _ _ _ (by decide)).trans e4))))) ?_
                  refine x_iconst (pc := 316) (v := (nI 1)) C dX12_next_316 (by decide) ?_
                  refine x_iadd (pc := 317) C dX12_next_317 ?_
                  refine x_eq (show (nI (tkP Y n x)) + (nI 1) = nI (tkP Y n x + 1) from nI_add _ _) ?_
                  refine p_M_here (pc := 318) C E q15_9 dX12_next_318 ?_
                  exact x_vret (pc := 321) C X dX12_next_321 (by have hrt : rtk Y n x = nI 3 := (by rw [rt_sgn (Y := Y) hlt h92 h145, if_pos (by rw [h255]; decide)]); exact ⟨rfl, ⟨((mu_k _ _ _ _ (by decide)).trans ((mu_k _ _ _ _ (by decide)).trans ((mu_k _ _ _ _ (by decide)).trans ((mu_k _ _ _ _ (by decide)).trans (mu_s _ _ _ _))))), (((mu_k _ _ _ _ (by decide)).trans ((mu_k _ _ _ _ (by decide)).trans (mu_s _ _ _ _)))).trans hrt.symm, fun _ => ((mu_s _ _ _ _)).trans (by rw [(tk_sgn (Y := Y) hlt h92 h145).1]), fun g => absurd (hrt.symm.trans g) (by decide), fun _ => ((mu_k _ _ _ _ (by decide)).trans (mu_s _ _ _ _))⟩, (fun a b hab => (by rw [mu_at, if_neg (by omega), mu_at, if_neg (by omega), mu_at, if_neg (by omega), mu_at, if_neg (by omega), mu_at, if_neg (by omega)]; exact eMx.2 a b (by omega)))⟩)
                · refine x_iload_n (pc := 258) C 0 dX12_next_258 rfl ?_
                  refine x_bipush (pc := 259) (v := 41) C dX12_next_259 rfl ?_
                  refine x_icmp_eq (pc := 261) C 300 dX12_next_261 (by decide) (fun h261 => ?_) (fun h261 => ?_)
                  · refine x_aload_n (pc := 300) C 1 dX12_next_300 rfl ?_
                    refine x_iconst (pc := 301) (v := (nI 3)) C dX12_next_301 (by decide) ?_
                    refine p_M_token (pc := 302) C E q15_12 dX12_next_302 ?_
                    refine x_aload_n (pc := 305) C 1 dX12_next_305 rfl ?_
                    refine x_iload_n (pc := 306) C 0 dX12_next_306 rfl ?_
                    refine x_i2l (pc := 307) C dX12_next_307 ?_
                    refine x_eqL (show Int32.toInt64 (Y (tkP Y n x)) = (Y (tkP Y n x)).toInt64 from rfl) ?_
                    refine p_M_tokenWorth (pc := 308) C E (v := (Y (tkP Y n x))) q15_22 dX12_next_308 ?_
                    refine x_aload_n (pc := 311) C 1 dX12_next_311 rfl ?_
                    refine x_dup (pc := 312) C dX12_next_312 rfl ?_
                    refine g_M_here (pc := 313) C E q15_9 dX12_next_313 ?_
                    refine x_eq (show (mu (mu (mu (mu Mx 0 23 (nI (tkP Y n x))) 0 22 (nI 4)) 0 22 (nI 3)) 0 24 ((Y (tkP Y n x)))) 0 21 = nI (tkP Y n x) from ((mu_k _ _ _ _ (by decide)).trans ((mu_k _ _ _ _ (by decide)).trans ((mu_k _ _ _ _ (by decide)).trans ((mu_k _ _ _ _ (by decide)).trans e4))))) ?_
                    refine x_iconst (pc := 316) (v := (nI 1)) C dX12_next_316 (by decide) ?_
                    refine x_iadd (pc := 317) C dX12_next_317 ?_
                    refine x_eq (show (nI (tkP Y n x)) + (nI 1) = nI (tkP Y n x + 1) from nI_add _ _) ?_
                    refine p_M_here (pc := 318) C E q15_9 dX12_next_318 ?_
                    exact x_vret (pc := 321) C X dX12_next_321 (by have hrt : rtk Y n x = nI 3 := (by rw [rt_sgn (Y := Y) hlt h92 h145, if_pos (by rw [h261]; decide)]); exact ⟨rfl, ⟨((mu_k _ _ _ _ (by decide)).trans ((mu_k _ _ _ _ (by decide)).trans ((mu_k _ _ _ _ (by decide)).trans ((mu_k _ _ _ _ (by decide)).trans (mu_s _ _ _ _))))), (((mu_k _ _ _ _ (by decide)).trans ((mu_k _ _ _ _ (by decide)).trans (mu_s _ _ _ _)))).trans hrt.symm, fun _ => ((mu_s _ _ _ _)).trans (by rw [(tk_sgn (Y := Y) hlt h92 h145).1]), fun g => absurd (hrt.symm.trans g) (by decide), fun _ => ((mu_k _ _ _ _ (by decide)).trans (mu_s _ _ _ _))⟩, (fun a b hab => (by rw [mu_at, if_neg (by omega), mu_at, if_neg (by omega), mu_at, if_neg (by omega), mu_at, if_neg (by omega), mu_at, if_neg (by omega)]; exact eMx.2 a b (by omega)))⟩)
                  · refine x_iload_n (pc := 264) C 0 dX12_next_264 rfl ?_
                    refine x_bipush (pc := 265) (v := 59) C dX12_next_265 rfl ?_
                    refine x_icmp_eq (pc := 267) C 300 dX12_next_267 (by decide) (fun h267 => ?_) (fun h267 => ?_)
                    · refine x_aload_n (pc := 300) C 1 dX12_next_300 rfl ?_
                      refine x_iconst (pc := 301) (v := (nI 3)) C dX12_next_301 (by decide) ?_
                      refine p_M_token (pc := 302) C E q15_12 dX12_next_302 ?_
                      refine x_aload_n (pc := 305) C 1 dX12_next_305 rfl ?_
                      refine x_iload_n (pc := 306) C 0 dX12_next_306 rfl ?_
                      refine x_i2l (pc := 307) C dX12_next_307 ?_
                      refine x_eqL (show Int32.toInt64 (Y (tkP Y n x)) = (Y (tkP Y n x)).toInt64 from rfl) ?_
                      refine p_M_tokenWorth (pc := 308) C E (v := (Y (tkP Y n x))) q15_22 dX12_next_308 ?_
                      refine x_aload_n (pc := 311) C 1 dX12_next_311 rfl ?_
                      refine x_dup (pc := 312) C dX12_next_312 rfl ?_
                      refine g_M_here (pc := 313) C E q15_9 dX12_next_313 ?_
                      refine x_eq (show (mu (mu (mu (mu Mx 0 23 (nI (tkP Y n x))) 0 22 (nI 4)) 0 22 (nI 3)) 0 24 ((Y (tkP Y n x)))) 0 21 = nI (tkP Y n x) from ((mu_k _ _ _ _ (by decide)).trans ((mu_k _ _ _ _ (by decide)).trans ((mu_k _ _ _ _ (by decide)).trans ((mu_k _ _ _ _ (by decide)).trans e4))))) ?_
                      refine x_iconst (pc := 316) (v := (nI 1)) C dX12_next_316 (by decide) ?_
                      refine x_iadd (pc := 317) C dX12_next_317 ?_
                      refine x_eq (show (nI (tkP Y n x)) + (nI 1) = nI (tkP Y n x + 1) from nI_add _ _) ?_
                      refine p_M_here (pc := 318) C E q15_9 dX12_next_318 ?_
                      exact x_vret (pc := 321) C X dX12_next_321 (by have hrt : rtk Y n x = nI 3 := (by rw [rt_sgn (Y := Y) hlt h92 h145, if_pos (by rw [h267]; decide)]); exact ⟨rfl, ⟨((mu_k _ _ _ _ (by decide)).trans ((mu_k _ _ _ _ (by decide)).trans ((mu_k _ _ _ _ (by decide)).trans ((mu_k _ _ _ _ (by decide)).trans (mu_s _ _ _ _))))), (((mu_k _ _ _ _ (by decide)).trans ((mu_k _ _ _ _ (by decide)).trans (mu_s _ _ _ _)))).trans hrt.symm, fun _ => ((mu_s _ _ _ _)).trans (by rw [(tk_sgn (Y := Y) hlt h92 h145).1]), fun g => absurd (hrt.symm.trans g) (by decide), fun _ => ((mu_k _ _ _ _ (by decide)).trans (mu_s _ _ _ _))⟩, (fun a b hab => (by rw [mu_at, if_neg (by omega), mu_at, if_neg (by omega), mu_at, if_neg (by omega), mu_at, if_neg (by omega), mu_at, if_neg (by omega)]; exact eMx.2 a b (by omega)))⟩)
                    · refine x_iload_n (pc := 270) C 0 dX12_next_270 rfl ?_
                      refine x_bipush (pc := 271) (v := 43) C dX12_next_271 rfl ?_
                      refine x_icmp_eq (pc := 273) C 300 dX12_next_273 (by decide) (fun h273 => ?_) (fun h273 => ?_)
                      · refine x_aload_n (pc := 300) C 1 dX12_next_300 rfl ?_
                        refine x_iconst (pc := 301) (v := (nI 3)) C dX12_next_301 (by decide) ?_
                        refine p_M_token (pc := 302) C E q15_12 dX12_next_302 ?_
                        refine x_aload_n (pc := 305) C 1 dX12_next_305 rfl ?_
                        refine x_iload_n (pc := 306) C 0 dX12_next_306 rfl ?_
                        refine x_i2l (pc := 307) C dX12_next_307 ?_
                        refine x_eqL (show Int32.toInt64 (Y (tkP Y n x)) = (Y (tkP Y n x)).toInt64 from rfl) ?_
                        refine p_M_tokenWorth (pc := 308) C E (v := (Y (tkP Y n x))) q15_22 dX12_next_308 ?_
                        refine x_aload_n (pc := 311) C 1 dX12_next_311 rfl ?_
                        refine x_dup (pc := 312) C dX12_next_312 rfl ?_
                        refine g_M_here (pc := 313) C E q15_9 dX12_next_313 ?_
                        refine x_eq (show (mu (mu (mu (mu Mx 0 23 (nI (tkP Y n x))) 0 22 (nI 4)) 0 22 (nI 3)) 0 24 ((Y (tkP Y n x)))) 0 21 = nI (tkP Y n x) from ((mu_k _ _ _ _ (by decide)).trans ((mu_k _ _ _ _ (by decide)).trans ((mu_k _ _ _ _ (by decide)).trans ((mu_k _ _ _ _ (by decide)).trans e4))))) ?_
                        refine x_iconst (pc := 316) (v := (nI 1)) C dX12_next_316 (by decide) ?_
                        refine x_iadd (pc := 317) C dX12_next_317 ?_
                        refine x_eq (show (nI (tkP Y n x)) + (nI 1) = nI (tkP Y n x + 1) from nI_add _ _) ?_
                        refine p_M_here (pc := 318) C E q15_9 dX12_next_318 ?_
                        exact x_vret (pc := 321) C X dX12_next_321 (by have hrt : rtk Y n x = nI 3 := (by rw [rt_sgn (Y := Y) hlt h92 h145, if_pos (by rw [h273]; decide)]); exact ⟨rfl, ⟨((mu_k _ _ _ _ (by decide)).trans ((mu_k _ _ _ _ (by decide)).trans ((mu_k _ _ _ _ (by decide)).trans ((mu_k _ _ _ _ (by decide)).trans (mu_s _ _ _ _))))), (((mu_k _ _ _ _ (by decide)).trans ((mu_k _ _ _ _ (by decide)).trans (mu_s _ _ _ _)))).trans hrt.symm, fun _ => ((mu_s _ _ _ _)).trans (by rw [(tk_sgn (Y := Y) hlt h92 h145).1]), fun g => absurd (hrt.symm.trans g) (by decide), fun _ => ((mu_k _ _ _ _ (by decide)).trans (mu_s _ _ _ _))⟩, (fun a b hab => (by rw [mu_at, if_neg (by omega), mu_at, if_neg (by omega), mu_at, if_neg (by omega), mu_at, if_neg (by omega), mu_at, if_neg (by omega)]; exact eMx.2 a b (by omega)))⟩)
                      · refine x_iload_n (pc := 276) C 0 dX12_next_276 rfl ?_
                        refine x_bipush (pc := 277) (v := 45) C dX12_next_277 rfl ?_
                        refine x_icmp_eq (pc := 279) C 300 dX12_next_279 (by decide) (fun h279 => ?_) (fun h279 => ?_)
                        · refine x_aload_n (pc := 300) C 1 dX12_next_300 rfl ?_
                          refine x_iconst (pc := 301) (v := (nI 3)) C dX12_next_301 (by decide) ?_
                          refine p_M_token (pc := 302) C E q15_12 dX12_next_302 ?_
                          refine x_aload_n (pc := 305) C 1 dX12_next_305 rfl ?_
                          refine x_iload_n (pc := 306) C 0 dX12_next_306 rfl ?_
                          refine x_i2l (pc := 307) C dX12_next_307 ?_
                          refine x_eqL (show Int32.toInt64 (Y (tkP Y n x)) = (Y (tkP Y n x)).toInt64 from rfl) ?_
                          refine p_M_tokenWorth (pc := 308) C E (v := (Y (tkP Y n x))) q15_22 dX12_next_308 ?_
                          refine x_aload_n (pc := 311) C 1 dX12_next_311 rfl ?_
                          refine x_dup (pc := 312) C dX12_next_312 rfl ?_
                          refine g_M_here (pc := 313) C E q15_9 dX12_next_313 ?_
                          refine x_eq (show (mu (mu (mu (mu Mx 0 23 (nI (tkP Y n x))) 0 22 (nI 4)) 0 22 (nI 3)) 0 24 ((Y (tkP Y n x)))) 0 21 = nI (tkP Y n x) from ((mu_k _ _ _ _ (by decide)).trans ((mu_k _ _ _ _ (by decide)).trans ((mu_k _ _ _ _ (by decide)).trans ((mu_k _ _ _ _ (by decide)).trans e4))))) ?_
                          refine x_iconst (pc := 316) (v := (nI 1)) C dX12_next_316 (by decide) ?_
                          refine x_iadd (pc := 317) C dX12_next_317 ?_
                          refine x_eq (show (nI (tkP Y n x)) + (nI 1) = nI (tkP Y n x + 1) from nI_add _ _) ?_
                          refine p_M_here (pc := 318) C E q15_9 dX12_next_318 ?_
                          exact x_vret (pc := 321) C X dX12_next_321 (by have hrt : rtk Y n x = nI 3 := (by rw [rt_sgn (Y := Y) hlt h92 h145, if_pos (by rw [h279]; decide)]); exact ⟨rfl, ⟨((mu_k _ _ _ _ (by decide)).trans ((mu_k _ _ _ _ (by decide)).trans ((mu_k _ _ _ _ (by decide)).trans ((mu_k _ _ _ _ (by decide)).trans (mu_s _ _ _ _))))), (((mu_k _ _ _ _ (by decide)).trans ((mu_k _ _ _ _ (by decide)).trans (mu_s _ _ _ _)))).trans hrt.symm, fun _ => ((mu_s _ _ _ _)).trans (by rw [(tk_sgn (Y := Y) hlt h92 h145).1]), fun g => absurd (hrt.symm.trans g) (by decide), fun _ => ((mu_k _ _ _ _ (by decide)).trans (mu_s _ _ _ _))⟩, (fun a b hab => (by rw [mu_at, if_neg (by omega), mu_at, if_neg (by omega), mu_at, if_neg (by omega), mu_at, if_neg (by omega), mu_at, if_neg (by omega)]; exact eMx.2 a b (by omega)))⟩)
                        · refine x_iload_n (pc := 282) C 0 dX12_next_282 rfl ?_
                          refine x_bipush (pc := 283) (v := 42) C dX12_next_283 rfl ?_
                          refine x_icmp_eq (pc := 285) C 300 dX12_next_285 (by decide) (fun h285 => ?_) (fun h285 => ?_)
                          · refine x_aload_n (pc := 300) C 1 dX12_next_300 rfl ?_
                            refine x_iconst (pc := 301) (v := (nI 3)) C dX12_next_301 (by decide) ?_
                            refine p_M_token (pc := 302) C E q15_12 dX12_next_302 ?_
                            refine x_aload_n (pc := 305) C 1 dX12_next_305 rfl ?_
                            refine x_iload_n (pc := 306) C 0 dX12_next_306 rfl ?_
                            refine x_i2l (pc := 307) C dX12_next_307 ?_
                            refine x_eqL (show Int32.toInt64 (Y (tkP Y n x)) = (Y (tkP Y n x)).toInt64 from rfl) ?_
                            refine p_M_tokenWorth (pc := 308) C E (v := (Y (tkP Y n x))) q15_22 dX12_next_308 ?_
                            refine x_aload_n (pc := 311) C 1 dX12_next_311 rfl ?_
                            refine x_dup (pc := 312) C dX12_next_312 rfl ?_
                            refine g_M_here (pc := 313) C E q15_9 dX12_next_313 ?_
                            refine x_eq (show (mu (mu (mu (mu Mx 0 23 (nI (tkP Y n x))) 0 22 (nI 4)) 0 22 (nI 3)) 0 24 ((Y (tkP Y n x)))) 0 21 = nI (tkP Y n x) from ((mu_k _ _ _ _ (by decide)).trans ((mu_k _ _ _ _ (by decide)).trans ((mu_k _ _ _ _ (by decide)).trans ((mu_k _ _ _ _ (by decide)).trans e4))))) ?_
                            refine x_iconst (pc := 316) (v := (nI 1)) C dX12_next_316 (by decide) ?_
                            refine x_iadd (pc := 317) C dX12_next_317 ?_
                            refine x_eq (show (nI (tkP Y n x)) + (nI 1) = nI (tkP Y n x + 1) from nI_add _ _) ?_
                            refine p_M_here (pc := 318) C E q15_9 dX12_next_318 ?_
                            exact x_vret (pc := 321) C X dX12_next_321 (by have hrt : rtk Y n x = nI 3 := (by rw [rt_sgn (Y := Y) hlt h92 h145, if_pos (by rw [h285]; decide)]); exact ⟨rfl, ⟨((mu_k _ _ _ _ (by decide)).trans ((mu_k _ _ _ _ (by decide)).trans ((mu_k _ _ _ _ (by decide)).trans ((mu_k _ _ _ _ (by decide)).trans (mu_s _ _ _ _))))), (((mu_k _ _ _ _ (by decide)).trans ((mu_k _ _ _ _ (by decide)).trans (mu_s _ _ _ _)))).trans hrt.symm, fun _ => ((mu_s _ _ _ _)).trans (by rw [(tk_sgn (Y := Y) hlt h92 h145).1]), fun g => absurd (hrt.symm.trans g) (by decide), fun _ => ((mu_k _ _ _ _ (by decide)).trans (mu_s _ _ _ _))⟩, (fun a b hab => (by rw [mu_at, if_neg (by omega), mu_at, if_neg (by omega), mu_at, if_neg (by omega), mu_at, if_neg (by omega), mu_at, if_neg (by omega)]; exact eMx.2 a b (by omega)))⟩)
                          · refine x_iload_n (pc := 288) C 0 dX12_next_288 rfl ?_
                            refine x_bipush (pc := 289) (v := 60) C dX12_next_289 rfl ?_
                            refine x_icmp_eq (pc := 291) C 300 dX12_next_291 (by decide) (fun h291 => ?_) (fun h291 => ?_)
                            · refine x_aload_n (pc := 300) C 1 dX12_next_300 rfl ?_
                              refine x_iconst (pc := 301) (v := (nI 3)) C dX12_next_301 (by decide) ?_
                              refine p_M_token (pc := 302) C E q15_12 dX12_next_302 ?_
                              refine x_aload_n (pc := 305) C 1 dX12_next_305 rfl ?_
                              refine x_iload_n (pc := 306) C 0 dX12_next_306 rfl ?_
                              refine x_i2l (pc := 307) C dX12_next_307 ?_
                              refine x_eqL (show Int32.toInt64 (Y (tkP Y n x)) = (Y (tkP Y n x)).toInt64 from rfl) ?_
                              refine p_M_tokenWorth (pc := 308) C E (v := (Y (tkP Y n x))) q15_22 dX12_next_308 ?_
                              refine x_aload_n (pc := 311) C 1 dX12_next_311 rfl ?_
                              refine x_dup (pc := 312) C dX12_next_312 rfl ?_
                              refine g_M_here (pc := 313) C E q15_9 dX12_next_313 ?_
                              refine x_eq (show (mu (mu (mu (mu Mx 0 23 (nI (tkP Y n x))) 0 22 (nI 4)) 0 22 (nI 3)) 0 24 ((Y (tkP Y n x)))) 0 21 = nI (tkP Y n x) from ((mu_k _ _ _ _ (by decide)).trans ((mu_k _ _ _ _ (by decide)).trans ((mu_k _ _ _ _ (by decide)).trans ((mu_k _ _ _ _ (by decide)).trans e4))))) ?_
                              refine x_iconst (pc := 316) (v := (nI 1)) C dX12_next_316 (by decide) ?_
                              refine x_iadd (pc := 317) C dX12_next_317 ?_
                              refine x_eq (show (nI (tkP Y n x)) + (nI 1) = nI (tkP Y n x + 1) from nI_add _ _) ?_
                              refine p_M_here (pc := 318) C E q15_9 dX12_next_318 ?_
                              exact x_vret (pc := 321) C X dX12_next_321 (by have hrt : rtk Y n x = nI 3 := (by rw [rt_sgn (Y := Y) hlt h92 h145, if_pos (by rw [h291]; decide)]); exact ⟨rfl, ⟨((mu_k _ _ _ _ (by decide)).trans ((mu_k _ _ _ _ (by decide)).trans ((mu_k _ _ _ _ (by decide)).trans ((mu_k _ _ _ _ (by decide)).trans (mu_s _ _ _ _))))), (((mu_k _ _ _ _ (by decide)).trans ((mu_k _ _ _ _ (by decide)).trans (mu_s _ _ _ _)))).trans hrt.symm, fun _ => ((mu_s _ _ _ _)).trans (by rw [(tk_sgn (Y := Y) hlt h92 h145).1]), fun g => absurd (hrt.symm.trans g) (by decide), fun _ => ((mu_k _ _ _ _ (by decide)).trans (mu_s _ _ _ _))⟩, (fun a b hab => (by rw [mu_at, if_neg (by omega), mu_at, if_neg (by omega), mu_at, if_neg (by omega), mu_at, if_neg (by omega), mu_at, if_neg (by omega)]; exact eMx.2 a b (by omega)))⟩)
                            · refine x_iload_n (pc := 294) C 0 dX12_next_294 rfl ?_
                              refine x_bipush (pc := 295) (v := 61) C dX12_next_295 rfl ?_
                              refine x_icmp_ne (pc := 297) C 321 dX12_next_297 (by decide) (fun h297 => ?_) (fun h297 => ?_)
                              · exact x_vret (pc := 321) C X dX12_next_321 (by have hrt : rtk Y n x = nI 4 := (by rw [rt_sgn (Y := Y) hlt h92 h145, if_neg (by intro e; unfold cSgn at e; rw [decide_eq_false h255, decide_eq_false h261, decide_eq_false h267, decide_eq_false h273, decide_eq_false h279, decide_eq_false h285, decide_eq_false h291, decide_eq_false h297] at e; exact absurd e (by decide))]); exact ⟨rfl, ⟨((mu_k _ _ _ _ (by decide)).trans (mu_s _ _ _ _)), ((mu_s _ _ _ _)).trans hrt.symm, fun g => absurd hrt g, fun g => absurd (hrt.symm.trans g) (by decide), fun g => absurd (hrt.symm.trans g) (by decide)⟩, (fun a b hab => (by rw [mu_at, if_neg (by omega), mu_at, if_neg (by omega)]; exact eMx.2 a b (by omega)))⟩)
                              · refine x_aload_n (pc := 300) C 1 dX12_next_300 rfl ?_
                                refine x_iconst (pc := 301) (v := (nI 3)) C dX12_next_301 (by decide) ?_
                                refine p_M_token (pc := 302) C E q15_12 dX12_next_302 ?_
                                refine x_aload_n (pc := 305) C 1 dX12_next_305 rfl ?_
                                refine x_iload_n (pc := 306) C 0 dX12_next_306 rfl ?_
                                refine x_i2l (pc := 307) C dX12_next_307 ?_
                                refine x_eqL (show Int32.toInt64 (Y (tkP Y n x)) = (Y (tkP Y n x)).toInt64 from rfl) ?_
                                refine p_M_tokenWorth (pc := 308) C E (v := (Y (tkP Y n x))) q15_22 dX12_next_308 ?_
                                refine x_aload_n (pc := 311) C 1 dX12_next_311 rfl ?_
                                refine x_dup (pc := 312) C dX12_next_312 rfl ?_
                                refine g_M_here (pc := 313) C E q15_9 dX12_next_313 ?_
                                refine x_eq (show (mu (mu (mu (mu Mx 0 23 (nI (tkP Y n x))) 0 22 (nI 4)) 0 22 (nI 3)) 0 24 ((Y (tkP Y n x)))) 0 21 = nI (tkP Y n x) from ((mu_k _ _ _ _ (by decide)).trans ((mu_k _ _ _ _ (by decide)).trans ((mu_k _ _ _ _ (by decide)).trans ((mu_k _ _ _ _ (by decide)).trans e4))))) ?_
                                refine x_iconst (pc := 316) (v := (nI 1)) C dX12_next_316 (by decide) ?_
                                refine x_iadd (pc := 317) C dX12_next_317 ?_
                                refine x_eq (show (nI (tkP Y n x)) + (nI 1) = nI (tkP Y n x + 1) from nI_add _ _) ?_
                                refine p_M_here (pc := 318) C E q15_9 dX12_next_318 ?_
                                exact x_vret (pc := 321) C X dX12_next_321 (by have hrt : rtk Y n x = nI 3 := (by rw [rt_sgn (Y := Y) hlt h92 h145, if_pos (by rw [h297]; decide)]); exact ⟨rfl, ⟨((mu_k _ _ _ _ (by decide)).trans ((mu_k _ _ _ _ (by decide)).trans ((mu_k _ _ _ _ (by decide)).trans ((mu_k _ _ _ _ (by decide)).trans (mu_s _ _ _ _))))), (((mu_k _ _ _ _ (by decide)).trans ((mu_k _ _ _ _ (by decide)).trans (mu_s _ _ _ _)))).trans hrt.symm, fun _ => ((mu_s _ _ _ _)).trans (by rw [(tk_sgn (Y := Y) hlt h92 h145).1]), fun g => absurd (hrt.symm.trans g) (by decide), fun _ => ((mu_k _ _ _ _ (by decide)).trans (mu_s _ _ _ _))⟩, (fun a b hab => (by rw [mu_at, if_neg (by omega), mu_at, if_neg (by omega), mu_at, if_neg (by omega), mu_at, if_neg (by omega), mu_at, if_neg (by omega)]; exact eMx.2 a b (by omega)))⟩)
              · refine x_aload_n (pc := 148) C 1 dX12_next_148 rfl ?_
                refine x_iconst (pc := 149) (v := (nI 2)) C dX12_next_149 (by decide) ?_
                refine p_M_token (pc := 150) C E q15_12 dX12_next_150 ?_
                refine x_aload_n (pc := 153) C 1 dX12_next_153 rfl ?_
                refine x_lconst (pc := 154) (v := 0) C dX12_next_154 rfl ?_
                refine x_eqL (show 0 = (0 : Int32).toInt64 from rfl) ?_
                refine p_M_tokenWorth (pc := 155) C E (v := (0 : Int32)) q15_22 dX12_next_155 ?_
                refine x_iconst (pc := 158) (v := (nI 0)) C dX12_next_158 (by decide) ?_
                refine x_istore_n (pc := 159) (L' := [(2, .int (nI 0)), (1, .int (Y (tkP Y n x))), (0, .ref (t.1 0))]) C dX12_next_159 (by decide) rfl ?_
                have loop160 : ∀ (k i : Nat) (y : Int32) (My : MM) , i + k = n → y = nI (i - tkP Y n x) → (My 0 22 = nI 2 ∧ My 0 23 = nI (tkP Y n x) ∧ My 0 21 = nI i ∧ My 0 24 = nvF Y (tkP Y n x) (min (i - tkP Y n x) 4) ∧ Sn M My) → rnT (tDi Y) n i = tkE Y n x → tkP Y n x ≤ i → (∀ j, tkP Y n x ≤ j → j < i → cDig (Y j) = true) → XV κ (xP (wR t) My) 160 [(2, .int y), (1, .int (Y (tkP Y n x))), (0, .ref (t.1 0))] [] := by
                  intro k
                  induction k with
                    | zero =>
                      intro i y My  hcnt ey eMy hg2 hpi hdg
                      subst ey
                      obtain rfl : n = i := by omega
                      refine x_aload_n (pc := 160) C 2 dX12_next_160 rfl ?_
                      refine x_aload_n (pc := 161) C 2 dX12_next_161 rfl ?_
                      refine g_M_here (pc := 162) C E q15_9 dX12_next_162 ?_
                      refine x_eq (show My 0 21 = nI n from eMy.2.2.1) ?_
                      refine x_callV (pc := 165) C E [.int (nI n)] [] (c_X12_byteAt t (M := My) (tr_sp hR eMy.2.2.2.2.sp) (x := n) (by omega)) m_X12_byteAt q16_0 xo_M rfl (by decide) (Nat.le_of_ble_eq_true rfl) dX12_next_165 rfl (k_I ?_)
                      refine x_eq (show bA Y n n = -1 from (by unfold bA; rw [if_neg (by omega)])) ?_
                      refine x_i2l (pc := 168) C dX12_next_168 ?_
                      refine x_ldc2 (pc := 169) (v := 48) C q15_20 dX12_next_169 ?_
                      refine x_ldc2 (pc := 172) (v := 57) C q15_21 dX12_next_172 ?_
                      refine x_callS (pc := 175) C E [.long (Int32.toInt64 (-1)), .long 48, .long 57] [] (c_X12_in t _ (-1) (A := 48) (B := 57) (by decide) (by decide)) m_X12_in q13_6 rfl (by decide) (Nat.le_of_ble_eq_true rfl) dX12_next_175 rfl (k_I ?_)
                      refine x_eq (show b2i (decide ((48 : Int) ≤ Int32.toInt (-1) ∧ Int32.toInt (-1) ≤ 57)) = b2i (cDig (-1)) from rfl) ?_
                      refine x_if_eq_t (pc := 178) C 235 dX12_next_178 (by decide) (by decide) ?_
                      refine x_aload_n (pc := 235) C 2 dX12_next_235 rfl ?_
                      refine x_iload_n (pc := 236) C 0 dX12_next_236 rfl ?_
                      refine x_iconst (pc := 237) (v := (nI 4)) C dX12_next_237 (by decide) ?_
                      refine x_icmp_le (pc := 238) C 245 dX12_next_238 (by decide) (fun h238 => ?_) (fun h238 => ?_)
                      · refine x_iconst (pc := 245) (v := (nI 2)) C dX12_next_245 (by decide) ?_
                        refine p_M_token (pc := 246) C E q15_12 dX12_next_246 ?_
                        refine x_goto (pc := 249) C 321 dX12_next_249 (by decide) ?_
                        exact x_vret (pc := 321) C X dX12_next_321 (by have hce : n = tkE Y n x := (by rw [← hg2]; exact (rnT_n (Nat.le_refl _)).symm); have h5 : ¬ 4 < tkE Y n x - tkP Y n x := (fun g => by rw [nI_leI (by omega) (by decide)] at h238; omega); have hrt : rtk Y n x = nI 2 := (by rw [rt_dig (Y := Y) hlt h92 h145, if_neg h5]); exact ⟨rfl, ⟨((mu_k _ _ _ _ (by decide)).trans eMy.2.1), ((mu_s _ _ _ _)).trans hrt.symm, fun _ => (((mu_k _ _ _ _ (by decide)).trans eMy.2.2.1)).trans (congrArg nI hce), fun _ => (((mu_k _ _ _ _ (by decide)).trans eMy.2.2.2.1)).trans (by rw [(tk_dig (Y := Y) hlt h92 h145).2.2, ← hce, Nat.min_eq_left (by omega)]), fun g => absurd (hrt.symm.trans g) (by decide)⟩, (fun a b hab => (by rw [mu_at, if_neg (by omega)]; exact eMy.2.2.2.2 a b (by omega)))⟩)
                      · refine x_iconst (pc := 241) (v := (nI 4)) C dX12_next_241 (by decide) ?_
                        refine x_goto (pc := 242) C 246 dX12_next_242 (by decide) ?_
                        refine p_M_token (pc := 246) C E q15_12 dX12_next_246 ?_
                        refine x_goto (pc := 249) C 321 dX12_next_249 (by decide) ?_
                        exact x_vret (pc := 321) C X dX12_next_321 (by have hce : n = tkE Y n x := (by rw [← hg2]; exact (rnT_n (Nat.le_refl _)).symm); have h5 : 4 < tkE Y n x - tkP Y n x := (Decidable.byContradiction fun g => h238 (nI_le (by omega) (by decide))); have hrt : rtk Y n x = nI 4 := (by rw [rt_dig (Y := Y) hlt h92 h145, if_pos h5]); exact ⟨rfl, ⟨((mu_k _ _ _ _ (by decide)).trans eMy.2.1), ((mu_s _ _ _ _)).trans hrt.symm, fun g => absurd hrt g, fun g => absurd (hrt.symm.trans g) (by decide), fun g => absurd (hrt.symm.trans g) (by decide)⟩, (fun a b hab => (by rw [mu_at, if_neg (by omega)]; exact eMy.2.2.2.2 a b (by omega)))⟩)
                    | succ k ih =>
                      intro i y My  hcnt ey eMy hg2 hpi hdg
                      subst ey
                      have hi160 : i < n := by omega
                      refine x_aload_n (pc := 160) C 2 dX12_next_160 rfl ?_
                      refine x_aload_n (pc := 161) C 2 dX12_next_161 rfl ?_
                      refine g_M_here (pc := 162) C E q15_9 dX12_next_162 ?_
                      refine x_eq (show My 0 21 = nI i from eMy.2.2.1) ?_
                      refine x_callV (pc := 165) C E [.int (nI i)] [] (c_X12_byteAt t (M := My) (tr_sp hR eMy.2.2.2.2.sp) (x := i) (by omega)) m_X12_byteAt q16_0 xo_M rfl (by decide) (Nat.le_of_ble_eq_true rfl) dX12_next_165 rfl (k_I ?_)
                      refine x_eq (show bA Y n i = Y i from (by unfold bA; rw [if_pos (by omega)])) ?_
                      refine x_i2l (pc := 168) C dX12_next_168 ?_
                      refine x_ldc2 (pc := 169) (v := 48) C q15_20 dX12_next_169 ?_
                      refine x_ldc2 (pc := 172) (v := 57) C q15_21 dX12_next_172 ?_
                      refine x_callS (pc := 175) C E [.long (Int32.toInt64 (Y i)), .long 48, .long 57] [] (c_X12_in t _ (Y i) (A := 48) (B := 57) (by decide) (by decide)) m_X12_in q13_6 rfl (by decide) (Nat.le_of_ble_eq_true rfl) dX12_next_175 rfl (k_I ?_)
                      refine x_eq (show b2i (decide ((48 : Int) ≤ Int32.toInt (Y i) ∧ Int32.toInt (Y i) ≤ 57)) = b2i (cDig (Y i)) from rfl) ?_
                      refine x_ifb_eq (pc := 178) C 235 dX12_next_178 (by decide) (fun h178 => ?_) (fun h178 => ?_)
                      · refine x_aload_n (pc := 235) C 2 dX12_next_235 rfl ?_
                        refine x_iload_n (pc := 236) C 0 dX12_next_236 rfl ?_
                        refine x_iconst (pc := 237) (v := (nI 4)) C dX12_next_237 (by decide) ?_
                        refine x_icmp_le (pc := 238) C 245 dX12_next_238 (by decide) (fun h238 => ?_) (fun h238 => ?_)
                        · refine x_iconst (pc := 245) (v := (nI 2)) C dX12_next_245 (by decide) ?_
                          refine p_M_token (pc := 246) C E q15_12 dX12_next_246 ?_
                          refine x_goto (pc := 249) C 321 dX12_next_249 (by decide) ?_
                          exact x_vret (pc := 321) C X dX12_next_321 (by have hce : i = tkE Y n x := (by rw [← hg2]; exact (rnT_f (P := tDi Y) h178).symm); have h5 : ¬ 4 < tkE Y n x - tkP Y n x := (fun g => by rw [nI_leI (by omega) (by decide)] at h238; omega); have hrt : rtk Y n x = nI 2 := (by rw [rt_dig (Y := Y) hlt h92 h145, if_neg h5]); exact ⟨rfl, ⟨((mu_k _ _ _ _ (by decide)).trans eMy.2.1), ((mu_s _ _ _ _)).trans hrt.symm, fun _ => (((mu_k _ _ _ _ (by decide)).trans eMy.2.2.1)).trans (congrArg nI hce), fun _ => (((mu_k _ _ _ _ (by decide)).trans eMy.2.2.2.1)).trans (by rw [(tk_dig (Y := Y) hlt h92 h145).2.2, ← hce, Nat.min_eq_left (by omega)]), fun g => absurd (hrt.symm.trans g) (by decide)⟩, (fun a b hab => (by rw [mu_at, if_neg (by omega)]; exact eMy.2.2.2.2 a b (by omega)))⟩)
                        · refine x_iconst (pc := 241) (v := (nI 4)) C dX12_next_241 (by decide) ?_
                          refine x_goto (pc := 242) C 246 dX12_next_242 (by decide) ?_
                          refine p_M_token (pc := 246) C E q15_12 dX12_next_246 ?_
                          refine x_goto (pc := 249) C 321 dX12_next_249 (by decide) ?_
                          exact x_vret (pc := 321) C X dX12_next_321 (by have hce : i = tkE Y n x := (by rw [← hg2]; exact (rnT_f (P := tDi Y) h178).symm); have h5 : 4 < tkE Y n x - tkP Y n x := (Decidable.byContradiction fun g => h238 (nI_le (by omega) (by decide))); have hrt : rtk Y n x = nI 4 := (by rw [rt_dig (Y := Y) hlt h92 h145, if_pos h5]); exact ⟨rfl, ⟨((mu_k _ _ _ _ (by decide)).trans eMy.2.1), ((mu_s _ _ _ _)).trans hrt.symm, fun g => absurd hrt g, fun g => absurd (hrt.symm.trans g) (by decide), fun g => absurd (hrt.symm.trans g) (by decide)⟩, (fun a b hab => (by rw [mu_at, if_neg (by omega)]; exact eMy.2.2.2.2 a b (by omega)))⟩)
                      · refine x_aload_n (pc := 181) C 2 dX12_next_181 rfl ?_
                        refine x_iload_n (pc := 182) C 0 dX12_next_182 rfl ?_
                        refine x_iconst (pc := 183) (v := (nI 4)) C dX12_next_183 (by decide) ?_
                        refine x_icmp_ge (pc := 184) C 212 dX12_next_184 (by decide) (fun h184 => ?_) (fun h184 => ?_)
                        · have hs4 : 4 ≤ i - tkP Y n x := (nI_leI (by decide) (by omega)).mp h184
                          refine x_aload_n (pc := 212) C 2 dX12_next_212 rfl ?_
                          refine g_M_tokenWorth (pc := 213) C E q15_22 dX12_next_213 ?_
                          refine p_M_tokenWorth (pc := 216) C E (v := (My 0 24)) q15_22 dX12_next_216 ?_
                          refine x_iinc (pc := 219) (v := nI ((i - tkP Y n x) + 1)) (L' := [(2, .int (nI ((i - tkP Y n x) + 1))), (1, .int (Y (tkP Y n x))), (0, .ref (t.1 0))]) C 0 dX12_next_219 rfl (nI_1 _) (by decide) rfl ?_
                          refine x_aload_n (pc := 222) C 2 dX12_next_222 rfl ?_
                          refine x_dup (pc := 223) C dX12_next_223 rfl ?_
                          refine g_M_here (pc := 224) C E q15_9 dX12_next_224 ?_
                          refine x_eq (show (mu My 0 24 ((My 0 24))) 0 21 = nI i from ((mu_k _ _ _ _ (by decide)).trans eMy.2.2.1)) ?_
                          refine x_iconst (pc := 227) (v := (nI 1)) C dX12_next_227 (by decide) ?_
                          refine x_iadd (pc := 228) C dX12_next_228 ?_
                          refine x_eq (show (nI i) + (nI 1) = nI (i + 1) from nI_add _ _) ?_
                          refine p_M_here (pc := 229) C E q15_9 dX12_next_229 ?_
                          refine x_goto (pc := 232) C 160 dX12_next_232 (by decide) ?_
                          refine x_sub [0, 1, 2] rfl ?_
                          exact ih (i + 1) _ _ (by omega) (by rw [show i + 1 - tkP Y n x = i - tkP Y n x + 1 by omega]) ⟨((mu_k _ _ _ _ (by decide)).trans ((mu_k _ _ _ _ (by decide)).trans eMy.1)), ((mu_k _ _ _ _ (by decide)).trans ((mu_k _ _ _ _ (by decide)).trans eMy.2.1)), mu_s _ _ _ _, (mu_k _ _ _ _ (by decide)).trans ((mu_s _ _ _ _).trans (eMy.2.2.2.1.trans (by rw [Nat.min_eq_right (by omega), Nat.min_eq_right (by omega)]))), (fun a b hab => (by rw [mu_at, if_neg (by omega), mu_at, if_neg (by omega)]; exact eMy.2.2.2.2 a b (by omega)))⟩ (by rw [← hg2]; exact (rnT_t (P := tDi Y) hi160 h178).symm) (by omega) (fun j h1 h2 => by by_cases e : j = i; rw [e]; exact h178; exact hdg j h1 (by omega))
                        · have hs4 : i - tkP Y n x < 4 := (by rw [nI_leI (by decide) (by omega)] at h184; omega)
                          refine x_ldc2 (pc := 187) (v := 10) C q15_23 dX12_next_187 ?_
                          refine x_aload_n (pc := 190) C 2 dX12_next_190 rfl ?_
                          refine g_M_tokenWorth (pc := 191) C E q15_22 dX12_next_191 ?_
                          refine x_lmul (pc := 194) C dX12_next_194 ?_
                          refine x_aload_n (pc := 195) C 2 dX12_next_195 rfl ?_
                          refine x_aload_n (pc := 196) C 2 dX12_next_196 rfl ?_
                          refine g_M_here (pc := 197) C E q15_9 dX12_next_197 ?_
                          refine x_eq (show My 0 21 = nI i from eMy.2.2.1) ?_
                          refine x_callV (pc := 200) C E [.int (nI i)] [.long (10 * ((My 0 24).toInt64)), .ref (t.1 0)] (c_X12_byteAt t (M := My) (tr_sp hR eMy.2.2.2.2.sp) (x := i) (by omega)) m_X12_byteAt q16_0 xo_M rfl (by decide) (Nat.le_of_ble_eq_true rfl) dX12_next_200 rfl (k_I ?_)
                          refine x_eq (show bA Y n i = Y i from (by unfold bA; rw [if_pos (by omega)])) ?_
                          refine x_i2l (pc := 203) C dX12_next_203 ?_
                          refine x_ladd (pc := 204) C dX12_next_204 ?_
                          refine x_ldc2 (pc := 205) (v := 48) C q15_20 dX12_next_205 ?_
                          refine x_lsub (pc := 208) C dX12_next_208 ?_
                          refine x_eqL (show ((10 * ((My 0 24).toInt64)) + (Int32.toInt64 (Y i))) - 48 = (nvF Y (tkP Y n x) (i + 1 - tkP Y n x)).toInt64 from (by rw [eMy.2.2.2.1, Nat.min_eq_left (by omega), show i + 1 - tkP Y n x = i - tkP Y n x + 1 by omega, ← nv_long hs4 (fun j hj => by by_cases e : tkP Y n x + j = i; rw [e]; exact h178; exact hdg _ (by omega) (by omega)), show tkP Y n x + (i - tkP Y n x) = i by omega])) ?_
                          refine x_goto (pc := 209) C 216 dX12_next_209 (by decide) ?_
                          refine p_M_tokenWorth (pc := 216) C E (v := (nvF Y (tkP Y n x) (i + 1 - tkP Y n x))) q15_22 dX12_next_216 ?_
                          refine x_iinc (pc := 219) (v := nI ((i - tkP Y n x) + 1)) (L' := [(2, .int (nI ((i - tkP Y n x) + 1))), (1, .int (Y (tkP Y n x))), (0, .ref (t.1 0))]) C 0 dX12_next_219 rfl (nI_1 _) (by decide) rfl ?_
                          refine x_aload_n (pc := 222) C 2 dX12_next_222 rfl ?_
                          refine x_dup (pc := 223) C dX12_next_223 rfl ?_
                          refine g_M_here (pc := 224) C E q15_9 dX12_next_224 ?_
                          refine x_eq (show (mu My 0 24 ((nvF Y (tkP Y n x) (i + 1 - tkP Y n x)))) 0 21 = nI i from ((mu_k _ _ _ _ (by decide)).trans eMy.2.2.1)) ?_
                          refine x_iconst (pc := 227) (v := (nI 1)) C dX12_next_227 (by decide) ?_
                          refine x_iadd (pc := 228) C dX12_next_228 ?_
                          refine x_eq (show (nI i) + (nI 1) = nI (i + 1) from nI_add _ _) ?_
                          refine p_M_here (pc := 229) C E q15_9 dX12_next_229 ?_
                          refine x_goto (pc := 232) C 160 dX12_next_232 (by decide) ?_
                          refine x_sub [0, 1, 2] rfl ?_
                          exact ih (i + 1) _ _ (by omega) (by rw [show i + 1 - tkP Y n x = i - tkP Y n x + 1 by omega]) ⟨((mu_k _ _ _ _ (by decide)).trans ((mu_k _ _ _ _ (by decide)).trans eMy.1)), ((mu_k _ _ _ _ (by decide)).trans ((mu_k _ _ _ _ (by decide)).trans eMy.2.1)), mu_s _ _ _ _, (mu_k _ _ _ _ (by decide)).trans ((mu_s _ _ _ _).trans (by rw [Nat.min_eq_left (by omega)])), (fun a b hab => (by rw [mu_at, if_neg (by omega), mu_at, if_neg (by omega)]; exact eMy.2.2.2.2 a b (by omega)))⟩ (by rw [← hg2]; exact (rnT_t (P := tDi Y) hi160 h178).symm) (by omega) (fun j h1 h2 => by by_cases e : j = i; rw [e]; exact h178; exact hdg j h1 (by omega))
                refine x_sub [0, 1, 2] rfl ?_
                exact loop160 (n - tkP Y n x) (tkP Y n x) _ _ (by omega) (by rw [Nat.sub_self]) ⟨((mu_k _ _ _ _ (by decide)).trans (mu_s _ _ _ _)), ((mu_k _ _ _ _ (by decide)).trans ((mu_k _ _ _ _ (by decide)).trans ((mu_k _ _ _ _ (by decide)).trans (mu_s _ _ _ _)))), ((mu_k _ _ _ _ (by decide)).trans ((mu_k _ _ _ _ (by decide)).trans ((mu_k _ _ _ _ (by decide)).trans ((mu_k _ _ _ _ (by decide)).trans e4)))), ((mu_s _ _ _ _)).trans (by rw [Nat.sub_self]; rfl), (fun a b hab => (by rw [mu_at, if_neg (by omega), mu_at, if_neg (by omega), mu_at, if_neg (by omega), mu_at, if_neg (by omega)]; exact eMx.2 a b (by omega)))⟩ (tk_dig (Y := Y) hlt h92 h145).1.symm (Nat.le_refl _) (fun j h1 h2 => absurd h2 (by omega))
            · refine x_aload_n (pc := 95) C 1 dX12_next_95 rfl ?_
              refine x_iconst (pc := 96) (v := (nI 1)) C dX12_next_96 (by decide) ?_
              refine p_M_token (pc := 97) C E q15_12 dX12_next_97 ?_
              have loop100 : ∀ (k i : Nat) (My : MM) , i + k = n → (My 0 22 = nI 1 ∧ My 0 23 = nI (tkP Y n x) ∧ My 0 21 = nI i ∧ Sn M My) → rnT (tLe Y) n i = tkE Y n x → XV κ (xP (wR t) My) 100 [(1, .int (Y (tkP Y n x))), (0, .ref (t.1 0))] [] := by
                intro k
                induction k with
                  | zero =>
                    intro i  My  hcnt  eMy hg2
                    obtain rfl : n = i := by omega
                    refine x_aload_n (pc := 100) C 1 dX12_next_100 rfl ?_
                    refine x_aload_n (pc := 101) C 1 dX12_next_101 rfl ?_
                    refine g_M_here (pc := 102) C E q15_9 dX12_next_102 ?_
                    refine x_eq (show My 0 21 = nI n from eMy.2.2.1) ?_
                    refine x_callV (pc := 105) C E [.int (nI n)] [] (c_X12_byteAt t (M := My) (tr_sp hR eMy.2.2.2.sp) (x := n) (by omega)) m_X12_byteAt q16_0 xo_M rfl (by decide) (Nat.le_of_ble_eq_true rfl) dX12_next_105 rfl (k_I ?_)
                    refine x_eq (show bA Y n n = -1 from (by unfold bA; rw [if_neg (by omega)])) ?_
                    refine x_i2l (pc := 108) C dX12_next_108 ?_
                    refine x_ldc2 (pc := 109) (v := 97) C q15_18 dX12_next_109 ?_
                    refine x_ldc2 (pc := 112) (v := 122) C q15_19 dX12_next_112 ?_
                    refine x_callS (pc := 115) C E [.long (Int32.toInt64 (-1)), .long 97, .long 122] [] (c_X12_in t _ (-1) (A := 97) (B := 122) (by decide) (by decide)) m_X12_in q13_6 rfl (by decide) (Nat.le_of_ble_eq_true rfl) dX12_next_115 rfl (k_I ?_)
                    refine x_eq (show b2i (decide ((97 : Int) ≤ Int32.toInt (-1) ∧ Int32.toInt (-1) ≤ 122)) = b2i (cLet (-1)) from rfl) ?_
                    refine x_if_eq_t (pc := 118) C 321 dX12_next_118 (by decide) (by decide) ?_
                    exact x_vret (pc := 321) C X dX12_next_321 ⟨rfl, ⟨eMy.2.1, eMy.1.trans (rt_let (Y := Y) hlt h92).symm, fun _ => eMy.2.2.1.trans (congrArg nI (by rw [← hg2]; exact (rnT_n (Nat.le_refl _)).symm)), fun g => absurd ((rt_let (Y := Y) hlt h92).symm.trans g) (by decide), fun g => absurd ((rt_let (Y := Y) hlt h92).symm.trans g) (by decide)⟩, eMy.2.2.2⟩
                  | succ k ih =>
                    intro i  My  hcnt  eMy hg2
                    have hi100 : i < n := by omega
                    refine x_aload_n (pc := 100) C 1 dX12_next_100 rfl ?_
                    refine x_aload_n (pc := 101) C 1 dX12_next_101 rfl ?_
                    refine g_M_here (pc := 102) C E q15_9 dX12_next_102 ?_
                    refine x_eq (show My 0 21 = nI i from eMy.2.2.1) ?_
                    refine x_callV (pc := 105) C E [.int (nI i)] [] (c_X12_byteAt t (M := My) (tr_sp hR eMy.2.2.2.sp) (x := i) (by omega)) m_X12_byteAt q16_0 xo_M rfl (by decide) (Nat.le_of_ble_eq_true rfl) dX12_next_105 rfl (k_I ?_)
                    refine x_eq (show bA Y n i = Y i from (by unfold bA; rw [if_pos (by omega)])) ?_
                    refine x_i2l (pc := 108) C dX12_next_108 ?_
                    refine x_ldc2 (pc := 109) (v := 97) C q15_18 dX12_next_109 ?_
                    refine x_ldc2 (pc := 112) (v := 122) C q15_19 dX12_next_112 ?_
                    refine x_callS (pc := 115) C E [.long (Int32.toInt64 (Y i)), .long 97, .long 122] [] (c_X12_in t _ (Y i) (A := 97) (B := 122) (by decide) (by decide)) m_X12_in q13_6 rfl (by decide) (Nat.le_of_ble_eq_true rfl) dX12_next_115 rfl (k_I ?_)
                    refine x_eq (show b2i (decide ((97 : Int) ≤ Int32.toInt (Y i) ∧ Int32.toInt (Y i) ≤ 122)) = b2i (cLet (Y i)) from rfl) ?_
                    refine x_ifb_eq (pc := 118) C 321 dX12_next_118 (by decide) (fun h118 => ?_) (fun h118 => ?_)
                    · exact x_vret (pc := 321) C X dX12_next_321 ⟨rfl, ⟨eMy.2.1, eMy.1.trans (rt_let (Y := Y) hlt h92).symm, fun _ => eMy.2.2.1.trans (congrArg nI (by rw [← hg2]; exact (rnT_f (P := tLe Y) h118).symm)), fun g => absurd ((rt_let (Y := Y) hlt h92).symm.trans g) (by decide), fun g => absurd ((rt_let (Y := Y) hlt h92).symm.trans g) (by decide)⟩, eMy.2.2.2⟩
                    · refine x_aload_n (pc := 121) C 1 dX12_next_121 rfl ?_
                      refine x_dup (pc := 122) C dX12_next_122 rfl ?_
                      refine g_M_here (pc := 123) C E q15_9 dX12_next_123 ?_
                      refine x_eq (show My 0 21 = nI i from eMy.2.2.1) ?_
                      refine x_iconst (pc := 126) (v := (nI 1)) C dX12_next_126 (by decide) ?_
                      refine x_iadd (pc := 127) C dX12_next_127 ?_
                      refine x_eq (show (nI i) + (nI 1) = nI (i + 1) from nI_add _ _) ?_
                      refine p_M_here (pc := 128) C E q15_9 dX12_next_128 ?_
                      refine x_goto (pc := 131) C 100 dX12_next_131 (by decide) ?_
                      refine x_sub [0, 1] rfl ?_
                      exact ih (i + 1) _ (by omega) ⟨(mu_k _ _ _ _ (by decide)).trans eMy.1, (mu_k _ _ _ _ (by decide)).trans eMy.2.1, mu_s _ _ _ _, fun a b hab => by rw [mu_at, if_neg (by omega)]; exact eMy.2.2.2 a b hab⟩ (by rw [← hg2]; exact (rnT_t (P := tLe Y) hi100 h118).symm)
              refine x_sub [0, 1] rfl ?_
              exact loop100 (n - tkP Y n x) (tkP Y n x) _ (by omega) ⟨(mu_s _ _ _ _), ((mu_k _ _ _ _ (by decide)).trans ((mu_k _ _ _ _ (by decide)).trans (mu_s _ _ _ _))), ((mu_k _ _ _ _ (by decide)).trans ((mu_k _ _ _ _ (by decide)).trans ((mu_k _ _ _ _ (by decide)).trans e4))), (fun a b hab => (by rw [mu_at, if_neg (by omega), mu_at, if_neg (by omega), mu_at, if_neg (by omega)]; exact eMx.2 a b (by omega)))⟩ (tk_let (Y := Y) hlt h92).1.symm
          · refine x_aload_n (pc := 26) C 0 dX12_next_26 rfl ?_
            refine x_dup (pc := 27) C dX12_next_27 rfl ?_
            refine g_M_here (pc := 28) C E q15_9 dX12_next_28 ?_
            refine x_eq (show Mx 0 21 = nI i from eMx.1) ?_
            refine x_iconst (pc := 31) (v := (nI 1)) C dX12_next_31 (by decide) ?_
            refine x_iadd (pc := 32) C dX12_next_32 ?_
            refine x_eq (show (nI i) + (nI 1) = nI (i + 1) from nI_add _ _) ?_
            refine p_M_here (pc := 33) C E q15_9 dX12_next_33 ?_
            refine x_goto (pc := 36) C 0 dX12_next_36 (by decide) ?_
            refine x_sub [0] rfl ?_
            exact ih (i + 1) _ (by omega) ⟨mu_s _ _ _ _, (fun a b hab => (by rw [mu_at, if_neg (by omega)]; exact eMx.2 a b (by omega)))⟩ (by rw [← hg]; exact (rnT_t (P := tBl Y) hi0 (by unfold tBl; rw [decide_eq_true h23]; exact Bool.or_true _)).symm)
  refine x_sub [0] rfl ?_
  exact loop0 (n - x) x M (by omega) ⟨hx, fun _ _ _ => rfl⟩ rfl

