theorem lev_S {Y : Nat → Int32} {n : Nat} {g0 : Bool} {sub : Nat → Nat → PR} {m x : Nat} (hm : ¬ m = 2) : chn Y n (4 - m) (lev Y n g0 sub m) 160 (lev Y n g0 sub m x) = lev Y n g0 sub (m + 1) x := by
  rw [lev, if_neg (fun e => hm e.1), if_neg hm]
theorem zp_t (a b : Int32) : zop (stp 4 (nI 42)) a b = a * b := by
  rw [show stp 4 (nI 42) = -9 from by decide]; unfold zop; rw [if_pos rfl]
theorem zp_p (a b : Int32) : zop (stp 3 (nI 43)) a b = a + b := by
  rw [show stp 3 (nI 43) = -10 from by decide]; unfold zop; rw [if_neg (by decide), if_pos rfl]
theorem zp_m (a b : Int32) : zop (stp 3 (nI 45)) a b = a - b := by
  rw [show stp 3 (nI 45) = -11 from by decide]; unfold zop; rw [if_neg (by decide), if_neg (by decide), if_pos rfl]
theorem zp_l (a b : Int32) : zop (stp (4 - 2) (nI 60)) a b = b2i (decide (a < b)) := by
  rw [show stp (4 - 2) (nI 60) = -12 from by decide]; unfold zop; rw [if_neg (by decide), if_neg (by decide), if_neg (by decide), if_pos rfl]
theorem zp_e (a b : Int32) : zop (stp (4 - 2) (nI 61)) a b = b2i (decide (a = b)) := by
  rw [show stp (4 - 2) (nI 61) = -13 from by decide]; unfold zop; rw [if_neg (by decide), if_neg (by decide), if_neg (by decide), if_neg (by decide), if_pos rfl]
theorem zp_a (a b : Int32) : zop (stp 1 (nI 8)) a b = b2i (decide (a ≠ 0) && decide (b ≠ 0)) := by
  rw [show stp 1 (nI 8) = -14 from by decide]; unfold zop; rw [if_neg (by decide), if_neg (by decide), if_neg (by decide), if_neg (by decide), if_neg (by decide), if_pos rfl]
theorem zp_o (a b : Int32) : zop (stp 0 (nI 7)) a b = b2i (decide (a ≠ 0) || decide (b ≠ 0)) := by
  rw [show stp 0 (nI 7) = -15 from by decide]; unfold zop; rw [if_neg (by decide), if_neg (by decide), if_neg (by decide), if_neg (by decide), if_neg (by decide), if_neg (by decide)]
set_option maxRecDepth 100000 in
set_option maxHeartbeats 800000 in
theorem c_X12_term (t : CT) {Y : Nat → Int32} {n q : Nat} {g : Nat} (hg : g ≤ 5) {g0 : Bool} {sub : Nat → Nat → PR} {NN : Nat} (hS : (∀ (M : MM) (x : Nat), TR Y n q M → TkR Y n x M → M 0 25 = nI (5 - g) → M 0 26 = 0 → x ≤ n → XMet (wR t) yX12_atom cX12_atom 2 (some .int) (5 + 10 * g) [.ref (t.1 0)] M (PRf Y n (5 - g) (lev Y n g0 sub 0 x) M))) (hPGm : ∀ y, y ≤ n → PG n NN y (lev Y n g0 sub 0 y)) (M : MM) (x : Nat) (hR : TR Y n q M) (hT : TkR Y n x M) (h25 : M 0 25 = nI (5 - g)) (h0 : M 0 26 = 0) (hxn : x ≤ n) : XMet (wR t) yX12_term cX12_term 2 (some .int) (6 + 10 * g) [.ref (t.1 0)] M (PRf Y n (5 - g) (lev Y n g0 sub (0 + 1) x) M) := by
  refine x_met RX12 (by decide) rfl (Nat.le_of_ble_eq_true rfl) (fun κ C X E => ?_)
  refine x_L (L' := [(0, .ref (t.1 0))]) rfl ?_
  have h160 := hR.1
  have hq6 := hR.2.1
  refine x_aload_n (pc := 0) C 0 dX12_term_0 rfl ?_
  refine x_callV (pc := 1) C E [] [] (hS _ x hR hT h25 h0 hxn) m_X12_atom q17_18 xo_M rfl (by omega) (Nat.le_of_ble_eq_true rfl) dX12_term_1 rfl (fun r M1 hc1 => ?_)
  obtain ⟨w1, rfl, hp1⟩ := hc1
  have hq1 := prm_pre Sp.rf hp1
  show XV κ (xP (wR t) M1) 4 _ [.int w1]
  refine x_istore_n (pc := 4) (L' := [(1, .int w1), (0, .ref (t.1 0))]) C dX12_term_4 (by decide) rfl ?_
  have loop5 : ∀ (k i : Nat) (Mx : MM) (A : PR) (w : Int32), i + k = 160 → PRm Y n (5 - g) A w M Mx → PG n (NN + 1) x A → (A.1 = true → i ≤ A.2.1) → chn Y n 4 (lev Y n g0 sub 0) k A = lev Y n g0 sub (0 + 1) x → XV κ (xP (wR t) Mx) 5 [(0, .ref (t.1 0)), (1, .int w)] [] := by
    intro k
    induction k with
      | zero =>
        intro i  Mx A w hcnt  eMx hPA hiA hch
        obtain rfl : 160 = i := by omega
        cases hAL : A.1 with
        | false =>
          obtain ⟨hbL, hcL⟩ := eMx.2.2 hAL
          refine x_aload_n (pc := 5) C 0 dX12_term_5 rfl ?_
          refine x_bipush (pc := 6) (v := (nI 42)) C dX12_term_6 (by decide) ?_
          refine x_callV (pc := 8) C E [.int (nI 42)] [] (c_X12_isSign_b t (M := Mx) hbL _) m_X12_isSign q17_9 xo_M rfl (by first | decide | omega) (Nat.le_of_ble_eq_true rfl) dX12_term_8 rfl (k_I ?_)
          refine x_eq (show b2i false = 0 from rfl) ?_
          refine x_if_eq_t (pc := 11) C 28 dX12_term_11 (by decide) (by decide) ?_
          refine x_iload_n (pc := 28) C 1 dX12_term_28 rfl ?_
          exact x_iret (pc := 29) C X dX12_term_29 (by rw [← hch, chn]; exact ⟨_, rfl, eMx⟩)
        | true =>
          obtain ⟨hwL, hTL, h25L, h0L⟩ := eMx.2.1 hAL
          have hxnL : A.2.1 ≤ n := hPA.1
          refine x_aload_n (pc := 5) C 0 dX12_term_5 rfl ?_
          have hz : tkK Y n A.2.1 = 0 := (tk_end (Y := Y) (by have h1 := hiA hAL; have h2 := hPA.1; have h3 := (tkP_le (Y := Y) h2).1; omega)).2
          refine x_bipush (pc := 6) (v := (nI 42)) C dX12_term_6 (by decide) ?_
          refine x_callV (pc := 8) C E [.int (nI 42)] [] (c_X12_isSign t (M := Mx) hTL h0L (s := 42) (by decide)) m_X12_isSign q17_9 xo_M rfl (by first | decide | omega) (Nat.le_of_ble_eq_true rfl) dX12_term_8 rfl (k_I ?_)
          refine x_if_eq_t (pc := 11) C 28 dX12_term_11 (by decide) (by rw [hz]; decide) ?_
          refine x_iload_n (pc := 28) C 1 dX12_term_28 rfl ?_
          exact x_iret (pc := 29) C X dX12_term_29 (by rw [← hch, chn]; exact ⟨_, rfl, eMx⟩)
        
      | succ k ih =>
        intro i  Mx A w hcnt  eMx hPA hiA hch
        have hi5 : i < 160 := by omega
        cases hAL : A.1 with
        | false =>
          obtain ⟨hbL, hcL⟩ := eMx.2.2 hAL
          refine x_aload_n (pc := 5) C 0 dX12_term_5 rfl ?_
          refine x_bipush (pc := 6) (v := (nI 42)) C dX12_term_6 (by decide) ?_
          refine x_callV (pc := 8) C E [.int (nI 42)] [] (c_X12_isSign_b t (M := Mx) hbL _) m_X12_isSign q17_9 xo_M rfl (by first | decide | omega) (Nat.le_of_ble_eq_true rfl) dX12_term_8 rfl (k_I ?_)
          refine x_eq (show b2i false = 0 from rfl) ?_
          refine x_if_eq_t (pc := 11) C 28 dX12_term_11 (by decide) (by decide) ?_
          refine x_iload_n (pc := 28) C 1 dX12_term_28 rfl ?_
          exact x_iret (pc := 29) C X dX12_term_29 (by rw [← hch, chn, if_pos (Or.inl hAL)]; exact ⟨_, rfl, eMx⟩)
        | true =>
          obtain ⟨hwL, hTL, h25L, h0L⟩ := eMx.2.1 hAL
          have hxnL : A.2.1 ≤ n := hPA.1
          refine x_aload_n (pc := 5) C 0 dX12_term_5 rfl ?_
          refine x_bipush (pc := 6) (v := (nI 42)) C dX12_term_6 (by decide) ?_
          refine x_callV (pc := 8) C E [.int (nI 42)] [] (c_X12_isSign t (M := Mx) hTL h0L (s := 42) (by decide)) m_X12_isSign q17_9 xo_M rfl (by first | decide | omega) (Nat.le_of_ble_eq_true rfl) dX12_term_8 rfl (k_I ?_)
          refine x_ifb_eq (pc := 11) C 28 dX12_term_11 (by decide) (fun h11 => ?_) (fun h11 => ?_)
          · refine x_iload_n (pc := 28) C 1 dX12_term_28 rfl ?_
            exact x_iret (pc := 29) C X dX12_term_29 (by rw [← hch, chn, if_pos (Or.inr (stp_4 (of_decide_eq_false h11)))]; exact ⟨_, rfl, eMx⟩)
          · refine x_aload_n (pc := 14) C 0 dX12_term_14 rfl ?_
            have hTn15 : TkR Y n (A.2.1) (Mx) := hTL
            have hRn15 : TR Y n q (Mx) := (tr_sp hR eMx.1)
            have hfn15 : Sp M (Mx) := eMx.1
            have h0n15 : (Mx) 0 26 = 0 := (by exact h0L)
            have hxn15 := tkE_le (Y := Y) hxnL
            refine x_callV (pc := 15) C E [] [] (c_X12_next t (M := Mx) hRn15 (x := tkE Y n (A.2.1)) (hTn15.2.2.1 (fun e => by rw [((rt_sign (by decide)).mp (of_decide_eq_true h11)).1] at e; exact absurd e (by decide))) hxn15) m_X12_next q15_13 xo_M rfl (by first | decide | omega) (Nat.le_of_ble_eq_true rfl) dX12_term_15 rfl (fun r M15 hc15 => ?_)
            obtain ⟨rfl, hT15, hs15⟩ := hc15
            show XV κ (xP (wR t) M15) 18 _ []
            refine x_iload_n (pc := 18) C 1 dX12_term_18 rfl ?_
            refine x_aload_n (pc := 19) C 0 dX12_term_19 rfl ?_
            refine x_callV (pc := 20) C E [] [.int w] (hS _ (tkE Y n (A.2.1)) (tr_sp hRn15 hs15.sp) hT15 ((hs15 _ _ (by omega)).trans h25L) ((hs15 _ _ (by omega)).trans h0n15) hxn15) m_X12_atom q17_18 xo_M rfl (by omega) (Nat.le_of_ble_eq_true rfl) dX12_term_20 rfl (fun r M20 hc20 => ?_)
            obtain ⟨w20, rfl, hp20⟩ := hc20
            have hq20 := prm_pre (hfn15.tr hs15.sp) hp20
            show XV κ (xP (wR t) M20) 23 _ [.int w20, .int w]
            refine x_imul (pc := 23) C dX12_term_23 ?_
            refine x_istore_n (pc := 24) (L' := [(1, .int (w * w20)), (0, .ref (t.1 0))]) C dX12_term_24 (by decide) rfl ?_
            refine x_goto (pc := 25) C 5 dX12_term_25 (by decide) ?_
            refine x_sub [1, 0] rfl ?_
            have hk : tkK Y n A.2.1 = nI 42 := of_decide_eq_true h11
            have hst : ¬ stp 4 (tkK Y n A.2.1) = -1 := by rw [hk]; decide
            have hPJ := PG_jn (Y := Y) (l := 4) hPGm hPA hAL hst
            have hCN : chn Y n 4 (lev Y n g0 sub 0) (k + 1) A = chn Y n 4 (lev Y n g0 sub 0) k (pJn (stp 4 (tkK Y n A.2.1)) A (lev Y n g0 sub 0 (tkE Y n A.2.1))) := by rw [chn, if_neg (fun e => e.elim (fun e => by rw [hAL] at e; cases e) hst)]
            have had := tk_adv (Y := Y) hPA.1 (stp_j hst).2
            refine ih (i + 1) _ (pJn (stp 4 (tkK Y n A.2.1)) A (lev Y n g0 sub 0 (tkE Y n A.2.1))) _ (by omega) (prm_val hq20 rfl rfl (fun _ e => ?_)) hPJ (fun hr => ?_) (by rw [← hch, hCN])
            · show _ = zop (stp 4 (tkK Y n A.2.1)) (A.2.2.2 (nmO M)) ((lev Y n g0 sub 0 (tkE Y n A.2.1)).2.2.2 (nmO M))
              rw [hk, ← e, ← hwL]
              rw [zp_t]
            · have h1 := hiA hAL
              have h2 := ((hPGm _ had.2).2 hr).2.1
              show i + 1 ≤ (lev Y n g0 sub 0 (tkE Y n A.2.1)).2.1
              omega
        
  refine x_sub [1, 0] rfl ?_
  exact loop5 160 0 _ (lev Y n g0 sub 0 x) _ (by omega) hq1 ⟨(hPGm x hxn).1, fun hr => ⟨((hPGm x hxn).2 hr).1, ((hPGm x hxn).2 hr).2.1, PE_up ((hPGm x hxn).2 hr).2.2 (by omega)⟩⟩ (fun _ => Nat.zero_le _) (lev_S (m := 0) (by decide))

set_option maxRecDepth 100000 in
set_option maxHeartbeats 800000 in
theorem c_X12_added (t : CT) {Y : Nat → Int32} {n q : Nat} {g : Nat} (hg : g ≤ 5) {g0 : Bool} {sub : Nat → Nat → PR} {NN : Nat} (hS : (∀ (M : MM) (x : Nat), TR Y n q M → TkR Y n x M → M 0 25 = nI (5 - g) → M 0 26 = 0 → x ≤ n → XMet (wR t) yX12_term cX12_term 2 (some .int) (6 + 10 * g) [.ref (t.1 0)] M (PRf Y n (5 - g) (lev Y n g0 sub (0 + 1) x) M))) (hPGm : ∀ y, y ≤ n → PG n NN y (lev Y n g0 sub 1 y)) (M : MM) (x : Nat) (hR : TR Y n q M) (hT : TkR Y n x M) (h25 : M 0 25 = nI (5 - g)) (h0 : M 0 26 = 0) (hxn : x ≤ n) : XMet (wR t) yX12_added cX12_added 4 (some .int) (7 + 10 * g) [.ref (t.1 0)] M (PRf Y n (5 - g) (lev Y n g0 sub (1 + 1) x) M) := by
  refine x_met RX12 (by decide) rfl (Nat.le_of_ble_eq_true rfl) (fun κ C X E => ?_)
  refine x_L (L' := [(0, .ref (t.1 0))]) rfl ?_
  have h160 := hR.1
  have hq6 := hR.2.1
  refine x_aload_n (pc := 0) C 0 dX12_added_0 rfl ?_
  refine x_callV (pc := 1) C E [] [] (hS _ x hR hT h25 h0 hxn) m_X12_term q17_6 xo_M rfl (by omega) (Nat.le_of_ble_eq_true rfl) dX12_added_1 rfl (fun r M1 hc1 => ?_)
  obtain ⟨w1, rfl, hp1⟩ := hc1
  have hq1 := prm_pre Sp.rf hp1
  show XV κ (xP (wR t) M1) 4 _ [.int w1]
  refine x_istore_n (pc := 4) (L' := [(1, .int w1), (0, .ref (t.1 0))]) C dX12_added_4 (by decide) rfl ?_
  have loop5 : ∀ (k i : Nat) (Mx : MM) (A : PR) (w : Int32), i + k = 160 → PRm Y n (5 - g) A w M Mx → PG n (NN + 1) x A → (A.1 = true → i ≤ A.2.1) → chn Y n 3 (lev Y n g0 sub 1) k A = lev Y n g0 sub (1 + 1) x → XV κ (xP (wR t) Mx) 5 [(0, .ref (t.1 0)), (1, .int w)] [] := by
    intro k
    induction k with
      | zero =>
        intro i  Mx A w hcnt  eMx hPA hiA hch
        obtain rfl : 160 = i := by omega
        cases hAL : A.1 with
        | false =>
          obtain ⟨hbL, hcL⟩ := eMx.2.2 hAL
          refine x_aload_n (pc := 5) C 0 dX12_added_5 rfl ?_
          refine x_bipush (pc := 6) (v := (nI 43)) C dX12_added_6 (by decide) ?_
          refine x_callV (pc := 8) C E [.int (nI 43)] [] (c_X12_isSign_b t (M := Mx) hbL _) m_X12_isSign q17_9 xo_M rfl (by first | decide | omega) (Nat.le_of_ble_eq_true rfl) dX12_added_8 rfl (k_I ?_)
          refine x_eq (show b2i false = 0 from rfl) ?_
          refine x_if_ne_f (pc := 11) C 23 dX12_added_11 (by decide) (by decide) ?_
          refine x_aload_n (pc := 14) C 0 dX12_added_14 rfl ?_
          refine x_bipush (pc := 15) (v := (nI 45)) C dX12_added_15 (by decide) ?_
          refine x_callV (pc := 17) C E [.int (nI 45)] [] (c_X12_isSign_b t (M := Mx) hbL _) m_X12_isSign q17_9 xo_M rfl (by first | decide | omega) (Nat.le_of_ble_eq_true rfl) dX12_added_17 rfl (k_I ?_)
          refine x_eq (show b2i false = 0 from rfl) ?_
          refine x_if_eq_t (pc := 20) C 66 dX12_added_20 (by decide) (by decide) ?_
          refine x_iload_n (pc := 66) C 1 dX12_added_66 rfl ?_
          exact x_iret (pc := 67) C X dX12_added_67 (by rw [← hch, chn]; exact ⟨_, rfl, eMx⟩)
        | true =>
          obtain ⟨hwL, hTL, h25L, h0L⟩ := eMx.2.1 hAL
          have hxnL : A.2.1 ≤ n := hPA.1
          refine x_aload_n (pc := 5) C 0 dX12_added_5 rfl ?_
          have hz : tkK Y n A.2.1 = 0 := (tk_end (Y := Y) (by have h1 := hiA hAL; have h2 := hPA.1; have h3 := (tkP_le (Y := Y) h2).1; omega)).2
          refine x_bipush (pc := 6) (v := (nI 43)) C dX12_added_6 (by decide) ?_
          refine x_callV (pc := 8) C E [.int (nI 43)] [] (c_X12_isSign t (M := Mx) hTL h0L (s := 43) (by decide)) m_X12_isSign q17_9 xo_M rfl (by first | decide | omega) (Nat.le_of_ble_eq_true rfl) dX12_added_8 rfl (k_I ?_)
          refine x_if_ne_f (pc := 11) C 23 dX12_added_11 (by decide) (by rw [hz]; decide) ?_
          refine x_aload_n (pc := 14) C 0 dX12_added_14 rfl ?_
          refine x_bipush (pc := 15) (v := (nI 45)) C dX12_added_15 (by decide) ?_
          refine x_callV (pc := 17) C E [.int (nI 45)] [] (c_X12_isSign t (M := Mx) hTL h0L (s := 45) (by decide)) m_X12_isSign q17_9 xo_M rfl (by first | decide | omega) (Nat.le_of_ble_eq_true rfl) dX12_added_17 rfl (k_I ?_)
          refine x_if_eq_t (pc := 20) C 66 dX12_added_20 (by decide) (by rw [hz]; decide) ?_
          refine x_iload_n (pc := 66) C 1 dX12_added_66 rfl ?_
          exact x_iret (pc := 67) C X dX12_added_67 (by rw [← hch, chn]; exact ⟨_, rfl, eMx⟩)
        
      | succ k ih =>
        intro i  Mx A w hcnt  eMx hPA hiA hch
        have hi5 : i < 160 := by omega
        cases hAL : A.1 with
        | false =>
          obtain ⟨hbL, hcL⟩ := eMx.2.2 hAL
          refine x_aload_n (pc := 5) C 0 dX12_added_5 rfl ?_
          refine x_bipush (pc := 6) (v := (nI 43)) C dX12_added_6 (by decide) ?_
          refine x_callV (pc := 8) C E [.int (nI 43)] [] (c_X12_isSign_b t (M := Mx) hbL _) m_X12_isSign q17_9 xo_M rfl (by first | decide | omega) (Nat.le_of_ble_eq_true rfl) dX12_added_8 rfl (k_I ?_)
          refine x_eq (show b2i false = 0 from rfl) ?_
          refine x_if_ne_f (pc := 11) C 23 dX12_added_11 (by decide) (by decide) ?_
          refine x_aload_n (pc := 14) C 0 dX12_added_14 rfl ?_
          refine x_bipush (pc := 15) (v := (nI 45)) C dX12_added_15 (by decide) ?_
          refine x_callV (pc := 17) C E [.int (nI 45)] [] (c_X12_isSign_b t (M := Mx) hbL _) m_X12_isSign q17_9 xo_M rfl (by first | decide | omega) (Nat.le_of_ble_eq_true rfl) dX12_added_17 rfl (k_I ?_)
          refine x_eq (show b2i false = 0 from rfl) ?_
          refine x_if_eq_t (pc := 20) C 66 dX12_added_20 (by decide) (by decide) ?_
          refine x_iload_n (pc := 66) C 1 dX12_added_66 rfl ?_
          exact x_iret (pc := 67) C X dX12_added_67 (by rw [← hch, chn, if_pos (Or.inl hAL)]; exact ⟨_, rfl, eMx⟩)
        | true =>
          obtain ⟨hwL, hTL, h25L, h0L⟩ := eMx.2.1 hAL
          have hxnL : A.2.1 ≤ n := hPA.1
          refine x_aload_n (pc := 5) C 0 dX12_added_5 rfl ?_
          refine x_bipush (pc := 6) (v := (nI 43)) C dX12_added_6 (by decide) ?_
          refine x_callV (pc := 8) C E [.int (nI 43)] [] (c_X12_isSign t (M := Mx) hTL h0L (s := 43) (by decide)) m_X12_isSign q17_9 xo_M rfl (by first | decide | omega) (Nat.le_of_ble_eq_true rfl) dX12_added_8 rfl (k_I ?_)
          refine x_ifb_ne (pc := 11) C 23 dX12_added_11 (by decide) (fun h11 => ?_) (fun h11 => ?_)
          · refine x_aload_n (pc := 23) C 0 dX12_added_23 rfl ?_
            refine g_M_tokenWorth (pc := 24) C E q15_22 dX12_added_24 ?_
            refine x_eqL (show (Mx 0 24).toInt64 = Int32.toInt64 (nI 43) from (by rw [hTL.2.2.2.2 ((rt_sign (by decide)).mp (of_decide_eq_true h11)).1, ((rt_sign (by decide)).mp (of_decide_eq_true h11)).2])) ?_
            refine x_ldc2 (pc := 27) (v := 43) C q17_5 dX12_added_27 ?_
            refine x_lcmp (pc := 30) C dX12_added_30 ?_
            refine x_if_ne_f (pc := 31) C 38 dX12_added_31 (by decide) (by decide +kernel) ?_
            refine x_iconst (pc := 34) (v := (nI 1)) C dX12_added_34 (by decide) ?_
            refine x_goto (pc := 35) C 39 dX12_added_35 (by decide) ?_
            refine x_istore_n (pc := 39) (L' := [(2, .int (nI 1)), (0, .ref (t.1 0)), (1, .int w)]) C dX12_added_39 (by decide) rfl ?_
            refine x_aload_n (pc := 40) C 1 dX12_added_40 rfl ?_
            have hTn41 : TkR Y n (A.2.1) (Mx) := hTL
            have hRn41 : TR Y n q (Mx) := (tr_sp hR eMx.1)
            have hfn41 : Sp M (Mx) := eMx.1
            have h0n41 : (Mx) 0 26 = 0 := (by exact h0L)
            have hxn41 := tkE_le (Y := Y) hxnL
            refine x_callV (pc := 41) C E [] [] (c_X12_next t (M := Mx) hRn41 (x := tkE Y n (A.2.1)) (hTn41.2.2.1 (fun e => by rw [((rt_sign (by decide)).mp (of_decide_eq_true h11)).1] at e; exact absurd e (by decide))) hxn41) m_X12_next q15_13 xo_M rfl (by first | decide | omega) (Nat.le_of_ble_eq_true rfl) dX12_added_41 rfl (fun r M41 hc41 => ?_)
            obtain ⟨rfl, hT41, hs41⟩ := hc41
            show XV κ (xP (wR t) M41) 44 _ []
            refine x_aload_n (pc := 44) C 1 dX12_added_44 rfl ?_
            refine x_callV (pc := 45) C E [] [] (hS _ (tkE Y n (A.2.1)) (tr_sp hRn41 hs41.sp) hT41 ((hs41 _ _ (by omega)).trans h25L) ((hs41 _ _ (by omega)).trans h0n41) hxn41) m_X12_term q17_6 xo_M rfl (by omega) (Nat.le_of_ble_eq_true rfl) dX12_added_45 rfl (fun r M45 hc45 => ?_)
            obtain ⟨w45, rfl, hp45⟩ := hc45
            have hq45 := prm_pre (hfn41.tr hs41.sp) hp45
            show XV κ (xP (wR t) M45) 48 _ [.int w45]
            refine x_istore_n (pc := 48) (L' := [(3, .int w45), (2, .int (nI 1)), (0, .ref (t.1 0)), (1, .int w)]) C dX12_added_48 (by decide) rfl ?_
            refine x_iload_n (pc := 49) C 1 dX12_added_49 rfl ?_
            refine x_if_eq_f (pc := 50) C 59 dX12_added_50 (by decide) (by decide) ?_
            refine x_iload_n (pc := 53) C 3 dX12_added_53 rfl ?_
            refine x_iload_n (pc := 54) C 0 dX12_added_54 rfl ?_
            refine x_iadd (pc := 55) C dX12_added_55 ?_
            refine x_goto (pc := 56) C 62 dX12_added_56 (by decide) ?_
            refine x_istore_n (pc := 62) (L' := [(1, .int (w + w45)), (3, .int w45), (2, .int (nI 1)), (0, .ref (t.1 0))]) C dX12_added_62 (by decide) rfl ?_
            refine x_goto (pc := 63) C 5 dX12_added_63 (by decide) ?_
            refine x_sub [3, 0] rfl ?_
            have hk : tkK Y n A.2.1 = nI 43 := of_decide_eq_true h11
            have hst : ¬ stp 3 (tkK Y n A.2.1) = -1 := by rw [hk]; decide
            have hPJ := PG_jn (Y := Y) (l := 3) hPGm hPA hAL hst
            have hCN : chn Y n 3 (lev Y n g0 sub 1) (k + 1) A = chn Y n 3 (lev Y n g0 sub 1) k (pJn (stp 3 (tkK Y n A.2.1)) A (lev Y n g0 sub 1 (tkE Y n A.2.1))) := by rw [chn, if_neg (fun e => e.elim (fun e => by rw [hAL] at e; cases e) hst)]
            have had := tk_adv (Y := Y) hPA.1 (stp_j hst).2
            refine ih (i + 1) _ (pJn (stp 3 (tkK Y n A.2.1)) A (lev Y n g0 sub 1 (tkE Y n A.2.1))) _ (by omega) (prm_val hq45 rfl rfl (fun _ e => ?_)) hPJ (fun hr => ?_) (by rw [← hch, hCN])
            · show _ = zop (stp 3 (tkK Y n A.2.1)) (A.2.2.2 (nmO M)) ((lev Y n g0 sub 1 (tkE Y n A.2.1)).2.2.2 (nmO M))
              rw [hk, ← e, ← hwL]
              rw [zp_p]
            · have h1 := hiA hAL
              have h2 := ((hPGm _ had.2).2 hr).2.1
              show i + 1 ≤ (lev Y n g0 sub 1 (tkE Y n A.2.1)).2.1
              omega
          · refine x_aload_n (pc := 14) C 0 dX12_added_14 rfl ?_
            refine x_bipush (pc := 15) (v := (nI 45)) C dX12_added_15 (by decide) ?_
            refine x_callV (pc := 17) C E [.int (nI 45)] [] (c_X12_isSign t (M := Mx) hTL h0L (s := 45) (by decide)) m_X12_isSign q17_9 xo_M rfl (by first | decide | omega) (Nat.le_of_ble_eq_true rfl) dX12_added_17 rfl (k_I ?_)
            refine x_ifb_eq (pc := 20) C 66 dX12_added_20 (by decide) (fun h20 => ?_) (fun h20 => ?_)
            · refine x_iload_n (pc := 66) C 1 dX12_added_66 rfl ?_
              exact x_iret (pc := 67) C X dX12_added_67 (by rw [← hch, chn, if_pos (Or.inr (stp_3 (of_decide_eq_false h11) (of_decide_eq_false h20)))]; exact ⟨_, rfl, eMx⟩)
            · refine x_aload_n (pc := 23) C 0 dX12_added_23 rfl ?_
              refine g_M_tokenWorth (pc := 24) C E q15_22 dX12_added_24 ?_
              refine x_eqL (show (Mx 0 24).toInt64 = Int32.toInt64 (nI 45) from (by rw [hTL.2.2.2.2 ((rt_sign (by decide)).mp (of_decide_eq_true h20)).1, ((rt_sign (by decide)).mp (of_decide_eq_true h20)).2])) ?_
              refine x_ldc2 (pc := 27) (v := 43) C q17_5 dX12_added_27 ?_
              refine x_lcmp (pc := 30) C dX12_added_30 ?_
              refine x_if_ne_t (pc := 31) C 38 dX12_added_31 (by decide) (by decide +kernel) ?_
              refine x_iconst (pc := 38) (v := (nI 0)) C dX12_added_38 (by decide) ?_
              refine x_istore_n (pc := 39) (L' := [(2, .int (nI 0)), (0, .ref (t.1 0)), (1, .int w)]) C dX12_added_39 (by decide) rfl ?_
              refine x_aload_n (pc := 40) C 1 dX12_added_40 rfl ?_
              have hTn41 : TkR Y n (A.2.1) (Mx) := hTL
              have hRn41 : TR Y n q (Mx) := (tr_sp hR eMx.1)
              have hfn41 : Sp M (Mx) := eMx.1
              have h0n41 : (Mx) 0 26 = 0 := (by exact h0L)
              have hxn41 := tkE_le (Y := Y) hxnL
              refine x_callV (pc := 41) C E [] [] (c_X12_next t (M := Mx) hRn41 (x := tkE Y n (A.2.1)) (hTn41.2.2.1 (fun e => by rw [((rt_sign (by decide)).mp (of_decide_eq_true h20)).1] at e; exact absurd e (by decide))) hxn41) m_X12_next q15_13 xo_M rfl (by first | decide | omega) (Nat.le_of_ble_eq_true rfl) dX12_added_41 rfl (fun r M41 hc41 => ?_)
              obtain ⟨rfl, hT41, hs41⟩ := hc41
              show XV κ (xP (wR t) M41) 44 _ []
              refine x_aload_n (pc := 44) C 1 dX12_added_44 rfl ?_
              refine x_callV (pc := 45) C E [] [] (hS _ (tkE Y n (A.2.1)) (tr_sp hRn41 hs41.sp) hT41 ((hs41 _ _ (by omega)).trans h25L) ((hs41 _ _ (by omega)).trans h0n41) hxn41) m_X12_term q17_6 xo_M rfl (by omega) (Nat.le_of_ble_eq_true rfl) dX12_added_45 rfl (fun r M45 hc45 => ?_)
              obtain ⟨w45, rfl, hp45⟩ := hc45
              have hq45 := prm_pre (hfn41.tr hs41.sp) hp45
              show XV κ (xP (wR t) M45) 48 _ [.int w45]
              refine x_istore_n (pc := 48) (L' := [(3, .int w45), (2, .int (nI 0)), (0, .ref (t.1 0)), (1, .int w)]) C dX12_added_48 (by decide) rfl ?_
              refine x_iload_n (pc := 49) C 1 dX12_added_49 rfl ?_
              refine x_if_eq_t (pc := 50) C 59 dX12_added_50 (by decide) (by decide) ?_
              refine x_iload_n (pc := 59) C 3 dX12_added_59 rfl ?_
              refine x_iload_n (pc := 60) C 0 dX12_added_60 rfl ?_
              refine x_isub (pc := 61) C dX12_added_61 ?_
              refine x_istore_n (pc := 62) (L' := [(1, .int (w - w45)), (3, .int w45), (2, .int (nI 0)), (0, .ref (t.1 0))]) C dX12_added_62 (by decide) rfl ?_
              refine x_goto (pc := 63) C 5 dX12_added_63 (by decide) ?_
              refine x_sub [3, 0] rfl ?_
              have hk : tkK Y n A.2.1 = nI 45 := of_decide_eq_true h20
              have hst : ¬ stp 3 (tkK Y n A.2.1) = -1 := by rw [hk]; decide
              have hPJ := PG_jn (Y := Y) (l := 3) hPGm hPA hAL hst
              have hCN : chn Y n 3 (lev Y n g0 sub 1) (k + 1) A = chn Y n 3 (lev Y n g0 sub 1) k (pJn (stp 3 (tkK Y n A.2.1)) A (lev Y n g0 sub 1 (tkE Y n A.2.1))) := by rw [chn, if_neg (fun e => e.elim (fun e => by rw [hAL] at e; cases e) hst)]
              have had := tk_adv (Y := Y) hPA.1 (stp_j hst).2
              refine ih (i + 1) _ (pJn (stp 3 (tkK Y n A.2.1)) A (lev Y n g0 sub 1 (tkE Y n A.2.1))) _ (by omega) (prm_val hq45 rfl rfl (fun _ e => ?_)) hPJ (fun hr => ?_) (by rw [← hch, hCN])
              · show _ = zop (stp 3 (tkK Y n A.2.1)) (A.2.2.2 (nmO M)) ((lev Y n g0 sub 1 (tkE Y n A.2.1)).2.2.2 (nmO M))
                rw [hk, ← e, ← hwL]
                rw [zp_m]
              · have h1 := hiA hAL
                have h2 := ((hPGm _ had.2).2 hr).2.1
                show i + 1 ≤ (lev Y n g0 sub 1 (tkE Y n A.2.1)).2.1
                omega
        
  refine x_sub [1, 0] rfl ?_
  exact loop5 160 0 _ (lev Y n g0 sub 1 x) _ (by omega) hq1 ⟨(hPGm x hxn).1, fun hr => ⟨((hPGm x hxn).2 hr).1, ((hPGm x hxn).2 hr).2.1, PE_up ((hPGm x hxn).2 hr).2.2 (by omega)⟩⟩ (fun _ => Nat.zero_le _) (lev_S (m := 1) (by decide))

theorem rt_keyR {Y : Nat → Int32} {n x j : Nat} (hj : j < 6) (h : tkK Y n x = nI (4 + j)) : rtk Y n x = nI 1 := by
  have h1 := rt_key (Y := Y) (n := n) (x := x) hj
  rw [decide_eq_true h, Bool.and_eq_true] at h1
  exact of_decide_eq_true h1.1
set_option maxRecDepth 100000 in
set_option maxHeartbeats 800000 in
theorem c_X12_not (t : CT) {Y : Nat → Int32} {n q : Nat} {g : Nat} (hg : g ≤ 5) {g0 : Bool} (h0g : g0 = decide (g = 0)) {sub : Nat → Nat → PR} (hN : g0 = false → (∀ (M : MM) (x : Nat), TR Y n q M → TkR Y n x M → M 0 25 = nI (5 - (g - 1)) → M 0 26 = 0 → x ≤ n → XMet (wR t) yX12_not cX12_not 4 (some .int) (8 + 10 * (g - 1)) [.ref (t.1 0)] M (PRf Y n (5 - (g - 1)) (sub 3 x) M))) (hS : (∀ (M : MM) (x : Nat), TR Y n q M → TkR Y n x M → M 0 25 = nI (5 - g) → M 0 26 = 0 → x ≤ n → XMet (wR t) yX12_added cX12_added 4 (some .int) (7 + 10 * g) [.ref (t.1 0)] M (PRf Y n (5 - g) (lev Y n g0 sub (1 + 1) x) M))) {NN : Nat} (hPGm : ∀ y, y ≤ n → PG n NN y (lev Y n g0 sub 2 y)) (M : MM) (x : Nat) (hR : TR Y n q M) (hT : TkR Y n x M) (h25 : M 0 25 = nI (5 - g)) (h0 : M 0 26 = 0) (hxn : x ≤ n) : XMet (wR t) yX12_not cX12_not 4 (some .int) (8 + 10 * g) [.ref (t.1 0)] M (PRf Y n (5 - g) (lev Y n g0 sub (2 + 1) x) M) := by
  refine x_met RX12 (by decide) rfl (Nat.le_of_ble_eq_true rfl) (fun κ C X E => ?_)
  refine x_L (L' := [(0, .ref (t.1 0))]) rfl ?_
  have h160 := hR.1
  have hq6 := hR.2.1
  refine x_aload_n (pc := 0) C 0 dX12_not_0 rfl ?_
  refine x_bipush (pc := 1) (v := (nI 110)) C dX12_not_1 (by decide) ?_
  refine x_bipush (pc := 3) (v := (nI 111)) C dX12_not_3 (by decide) ?_
  refine x_bipush (pc := 5) (v := (nI 116)) C dX12_not_5 (by decide) ?_
  refine x_iconst (pc := 7) (v := (nI 0)) C dX12_not_7 (by decide) ?_
  refine x_iconst (pc := 8) (v := (nI 0)) C dX12_not_8 (by decide) ?_
  refine x_iconst (pc := 9) (v := (nI 0)) C dX12_not_9 (by decide) ?_
  refine x_iconst (pc := 10) (v := (nI 0)) C dX12_not_10 (by decide) ?_
  refine x_iconst (pc := 11) (v := (nI 0)) C dX12_not_11 (by decide) ?_
  refine x_callV (pc := 12) C E [.int (nI 110), .int (nI 111), .int (nI 116), .int (nI 0), .int (nI 0), .int (nI 0), .int (nI 0), .int (nI 0)] [] (c_X12_isWord t (M := M) hR hT h0 hxn (j := 5) (by decide)) m_X12_isWord q16_4 xo_M rfl (by first | decide | omega) (Nat.le_of_ble_eq_true rfl) dX12_not_12 rfl (k_I ?_)
  refine x_eq (show _ = b2i (decide (tkK Y n x = nI 9)) from (by rw [rt_key (by decide)])) ?_
  refine x_ifb_eq (pc := 15) C 52 dX12_not_15 (by decide) (fun h15 => ?_) (fun h15 => ?_)
  · refine x_aload_n (pc := 52) C 0 dX12_not_52 rfl ?_
    refine x_callV (pc := 53) C E [] [] (hS _ x hR hT h25 h0 hxn) m_X12_added q18_7 xo_M rfl (by omega) (Nat.le_of_ble_eq_true rfl) dX12_not_53 rfl (fun r M53 hc53 => ?_)
    obtain ⟨w53, rfl, hp53⟩ := hc53
    have hq53 := prm_pre Sp.rf hp53
    show XV κ (xP (wR t) M53) 56 _ [.int w53]
    refine x_istore_n (pc := 56) (L' := [(1, .int w53), (0, .ref (t.1 0))]) C dX12_not_56 (by decide) rfl ?_
    cases hAa : ((lev Y n g0 sub 2 x)).1 with
    | false =>
      obtain ⟨hba, hca⟩ := hq53.2.2 hAa
      refine x_aload_n (pc := 57) C 1 dX12_not_57 rfl ?_
      refine x_bipush (pc := 58) (v := (nI 60)) C dX12_not_58 (by decide) ?_
      refine x_callV (pc := 60) C E [.int (nI 60)] [] (c_X12_isSign_b t (M := M53) hba _) m_X12_isSign q17_9 xo_M rfl (by first | decide | omega) (Nat.le_of_ble_eq_true rfl) dX12_not_60 rfl (k_I ?_)
      refine x_eq (show b2i false = 0 from rfl) ?_
      refine x_if_ne_f (pc := 63) C 77 dX12_not_63 (by decide) (by decide) ?_
      refine x_aload_n (pc := 66) C 1 dX12_not_66 rfl ?_
      refine x_bipush (pc := 67) (v := (nI 61)) C dX12_not_67 (by decide) ?_
      refine x_callV (pc := 69) C E [.int (nI 61)] [] (c_X12_isSign_b t (M := M53) hba _) m_X12_isSign q17_9 xo_M rfl (by first | decide | omega) (Nat.le_of_ble_eq_true rfl) dX12_not_69 rfl (k_I ?_)
      refine x_eq (show b2i false = 0 from rfl) ?_
      refine x_if_ne_f (pc := 72) C 77 dX12_not_72 (by decide) (by decide) ?_
      refine x_iload_n (pc := 75) C 0 dX12_not_75 rfl ?_
      exact x_iret (pc := 76) C X dX12_not_76 (by rw [lev, if_neg (fun e => absurd e.2 (of_decide_eq_false h15)), if_pos rfl]; rw [show chn Y n (4 - 2) (lev Y n g0 sub 2) 1 (lev Y n g0 sub 2 x) = (lev Y n g0 sub 2 x) from by rw [chn, if_pos (Or.inl hAa)]]; exact ⟨_, rfl, hq53⟩)
    | true =>
      obtain ⟨hwa, hTa, h25a, h0a⟩ := hq53.2.1 hAa
      have hxna : ((lev Y n g0 sub 2 x)).2.1 ≤ n := (hPGm x hxn).1
      refine x_aload_n (pc := 57) C 1 dX12_not_57 rfl ?_
      refine x_bipush (pc := 58) (v := (nI 60)) C dX12_not_58 (by decide) ?_
      refine x_callV (pc := 60) C E [.int (nI 60)] [] (c_X12_isSign t (M := M53) hTa h0a (s := 60) (by decide)) m_X12_isSign q17_9 xo_M rfl (by first | decide | omega) (Nat.le_of_ble_eq_true rfl) dX12_not_60 rfl (k_I ?_)
      refine x_ifb_ne (pc := 63) C 77 dX12_not_63 (by decide) (fun h63 => ?_) (fun h63 => ?_)
      · refine x_aload_n (pc := 77) C 1 dX12_not_77 rfl ?_
        refine g_M_tokenWorth (pc := 78) C E q15_22 dX12_not_78 ?_
        refine x_eqL (show (M53 0 24).toInt64 = Int32.toInt64 (nI 60) from (by rw [hTa.2.2.2.2 ((rt_sign (by decide)).mp (of_decide_eq_true h63)).1, ((rt_sign (by decide)).mp (of_decide_eq_true h63)).2])) ?_
        refine x_ldc2 (pc := 81) (v := 60) C q18_6 dX12_not_81 ?_
        refine x_lcmp (pc := 84) C dX12_not_84 ?_
        refine x_if_ne_f (pc := 85) C 92 dX12_not_85 (by decide) (by decide +kernel) ?_
        refine x_iconst (pc := 88) (v := (nI 1)) C dX12_not_88 (by decide) ?_
        refine x_goto (pc := 89) C 93 dX12_not_89 (by decide) ?_
        refine x_istore_n (pc := 93) (L' := [(2, .int (nI 1)), (1, .int w53), (0, .ref (t.1 0))]) C dX12_not_93 (by decide) rfl ?_
        refine x_aload_n (pc := 94) C 2 dX12_not_94 rfl ?_
        have hTn95 : TkR Y n ((lev Y n g0 sub 2 x).2.1) (M53) := hTa
        have hRn95 : TR Y n q (M53) := (tr_sp hR hq53.1)
        have hfn95 : Sp M (M53) := hq53.1
        have h0n95 : (M53) 0 26 = 0 := (by exact h0a)
        have hxn95 := tkE_le (Y := Y) hxna
        refine x_callV (pc := 95) C E [] [] (c_X12_next t (M := M53) hRn95 (x := tkE Y n ((lev Y n g0 sub 2 x).2.1)) (hTn95.2.2.1 (fun e => by rw [((rt_sign (by decide)).mp (of_decide_eq_true h63)).1] at e; exact absurd e (by decide))) hxn95) m_X12_next q15_13 xo_M rfl (by first | decide | omega) (Nat.le_of_ble_eq_true rfl) dX12_not_95 rfl (fun r M95 hc95 => ?_)
        obtain ⟨rfl, hT95, hs95⟩ := hc95
        show XV κ (xP (wR t) M95) 98 _ []
        refine x_aload_n (pc := 98) C 2 dX12_not_98 rfl ?_
        refine x_callV (pc := 99) C E [] [] (hS _ (tkE Y n ((lev Y n g0 sub 2 x).2.1)) (tr_sp hRn95 hs95.sp) hT95 ((hs95 _ _ (by omega)).trans h25a) ((hs95 _ _ (by omega)).trans h0n95) hxn95) m_X12_added q18_7 xo_M rfl (by omega) (Nat.le_of_ble_eq_true rfl) dX12_not_99 rfl (fun r M99 hc99 => ?_)
        obtain ⟨w99, rfl, hp99⟩ := hc99
        have hq99 := prm_pre (hfn95.tr hs95.sp) hp99
        show XV κ (xP (wR t) M99) 102 _ [.int w99]
        refine x_istore_n (pc := 102) (L' := [(3, .int w99), (2, .int (nI 1)), (1, .int w53), (0, .ref (t.1 0))]) C dX12_not_102 (by decide) rfl ?_
        refine x_iload_n (pc := 103) C 1 dX12_not_103 rfl ?_
        refine x_if_eq_f (pc := 104) C 115 dX12_not_104 (by decide) (by decide) ?_
        refine x_iload_n (pc := 107) C 2 dX12_not_107 rfl ?_
        refine x_iload_n (pc := 108) C 0 dX12_not_108 rfl ?_
        refine x_icmp_ge (pc := 109) C 124 dX12_not_109 (by decide) (fun h109 => ?_) (fun h109 => ?_)
        · refine x_iconst (pc := 124) (v := (nI 0)) C dX12_not_124 (by decide) ?_
          exact x_iret (pc := 125) C X dX12_not_125 (by rw [lev, if_neg (fun e => absurd e.2 (of_decide_eq_false h15)), if_pos rfl]; rw [show chn Y n (4 - 2) (lev Y n g0 sub 2) 1 (lev Y n g0 sub 2 x) = (pJn (stp (4 - 2) (tkK Y n (lev Y n g0 sub 2 x).2.1)) (lev Y n g0 sub 2 x) (lev Y n g0 sub 2 (tkE Y n (lev Y n g0 sub 2 x).2.1))) from by rw [chn, if_neg (fun e => e.elim (fun e => by rw [hAa] at e; cases e) (by rw [of_decide_eq_true h63]; decide)), chn]]; exact ⟨_, rfl, prm_val hq99 rfl rfl (fun _ e => by show _ = zop (stp (4 - 2) (tkK Y n (lev Y n g0 sub 2 x).2.1)) ((lev Y n g0 sub 2 x).2.2.2 (nmO M)) ((lev Y n g0 sub 2 (tkE Y n (lev Y n g0 sub 2 x).2.1)).2.2.2 (nmO M)); rw [show tkK Y n (lev Y n g0 sub 2 x).2.1 = nI 60 from of_decide_eq_true h63, ← e, ← hwa, zp_l, decide_eq_false (Int32.not_lt.mpr h109)]; rfl)⟩)
        · refine x_goto (pc := 112) C 120 dX12_not_112 (by decide) ?_
          refine x_iconst (pc := 120) (v := (nI 1)) C dX12_not_120 (by decide) ?_
          refine x_goto (pc := 121) C 125 dX12_not_121 (by decide) ?_
          exact x_iret (pc := 125) C X dX12_not_125 (by rw [lev, if_neg (fun e => absurd e.2 (of_decide_eq_false h15)), if_pos rfl]; rw [show chn Y n (4 - 2) (lev Y n g0 sub 2) 1 (lev Y n g0 sub 2 x) = (pJn (stp (4 - 2) (tkK Y n (lev Y n g0 sub 2 x).2.1)) (lev Y n g0 sub 2 x) (lev Y n g0 sub 2 (tkE Y n (lev Y n g0 sub 2 x).2.1))) from by rw [chn, if_neg (fun e => e.elim (fun e => by rw [hAa] at e; cases e) (by rw [of_decide_eq_true h63]; decide)), chn]]; exact ⟨_, rfl, prm_val hq99 rfl rfl (fun _ e => by show _ = zop (stp (4 - 2) (tkK Y n (lev Y n g0 sub 2 x).2.1)) ((lev Y n g0 sub 2 x).2.2.2 (nmO M)) ((lev Y n g0 sub 2 (tkE Y n (lev Y n g0 sub 2 x).2.1)).2.2.2 (nmO M)); rw [show tkK Y n (lev Y n g0 sub 2 x).2.1 = nI 60 from of_decide_eq_true h63, ← e, ← hwa, zp_l, decide_eq_true (Int32.not_le.mp h109)]; rfl)⟩)
      · refine x_aload_n (pc := 66) C 1 dX12_not_66 rfl ?_
        refine x_bipush (pc := 67) (v := (nI 61)) C dX12_not_67 (by decide) ?_
        refine x_callV (pc := 69) C E [.int (nI 61)] [] (c_X12_isSign t (M := M53) hTa h0a (s := 61) (by decide)) m_X12_isSign q17_9 xo_M rfl (by first | decide | omega) (Nat.le_of_ble_eq_true rfl) dX12_not_69 rfl (k_I ?_)
        refine x_ifb_ne (pc := 72) C 77 dX12_not_72 (by decide) (fun h72 => ?_) (fun h72 => ?_)
        · refine x_aload_n (pc := 77) C 1 dX12_not_77 rfl ?_
          refine g_M_tokenWorth (pc := 78) C E q15_22 dX12_not_78 ?_
          refine x_eqL (show (M53 0 24).toInt64 = Int32.toInt64 (nI 61) from (by rw [hTa.2.2.2.2 ((rt_sign (by decide)).mp (of_decide_eq_true h72)).1, ((rt_sign (by decide)).mp (of_decide_eq_true h72)).2])) ?_
          refine x_ldc2 (pc := 81) (v := 60) C q18_6 dX12_not_81 ?_
          refine x_lcmp (pc := 84) C dX12_not_84 ?_
          refine x_if_ne_t (pc := 85) C 92 dX12_not_85 (by decide) (by decide +kernel) ?_
          refine x_iconst (pc := 92) (v := (nI 0)) C dX12_not_92 (by decide) ?_
          refine x_istore_n (pc := 93) (L' := [(2, .int (nI 0)), (1, .int w53), (0, .ref (t.1 0))]) C dX12_not_93 (by decide) rfl ?_
          refine x_aload_n (pc := 94) C 2 dX12_not_94 rfl ?_
          have hTn95 : TkR Y n ((lev Y n g0 sub 2 x).2.1) (M53) := hTa
          have hRn95 : TR Y n q (M53) := (tr_sp hR hq53.1)
          have hfn95 : Sp M (M53) := hq53.1
          have h0n95 : (M53) 0 26 = 0 := (by exact h0a)
          have hxn95 := tkE_le (Y := Y) hxna
          refine x_callV (pc := 95) C E [] [] (c_X12_next t (M := M53) hRn95 (x := tkE Y n ((lev Y n g0 sub 2 x).2.1)) (hTn95.2.2.1 (fun e => by rw [((rt_sign (by decide)).mp (of_decide_eq_true h72)).1] at e; exact absurd e (by decide))) hxn95) m_X12_next q15_13 xo_M rfl (by first | decide | omega) (Nat.le_of_ble_eq_true rfl) dX12_not_95 rfl (fun r M95 hc95 => ?_)
          obtain ⟨rfl, hT95, hs95⟩ := hc95
          show XV κ (xP (wR t) M95) 98 _ []
          refine x_aload_n (pc := 98) C 2 dX12_not_98 rfl ?_
          refine x_callV (pc := 99) C E [] [] (hS _ (tkE Y n ((lev Y n g0 sub 2 x).2.1)) (tr_sp hRn95 hs95.sp) hT95 ((hs95 _ _ (by omega)).trans h25a) ((hs95 _ _ (by omega)).trans h0n95) hxn95) m_X12_added q18_7 xo_M rfl (by omega) (Nat.le_of_ble_eq_true rfl) dX12_not_99 rfl (fun r M99 hc99 => ?_)
          obtain ⟨w99, rfl, hp99⟩ := hc99
          have hq99 := prm_pre (hfn95.tr hs95.sp) hp99
          show XV κ (xP (wR t) M99) 102 _ [.int w99]
          refine x_istore_n (pc := 102) (L' := [(3, .int w99), (2, .int (nI 0)), (1, .int w53), (0, .ref (t.1 0))]) C dX12_not_102 (by decide) rfl ?_
          refine x_iload_n (pc := 103) C 1 dX12_not_103 rfl ?_
          refine x_if_eq_t (pc := 104) C 115 dX12_not_104 (by decide) (by decide) ?_
          refine x_iload_n (pc := 115) C 2 dX12_not_115 rfl ?_
          refine x_iload_n (pc := 116) C 0 dX12_not_116 rfl ?_
          refine x_icmp_ne (pc := 117) C 124 dX12_not_117 (by decide) (fun h117 => ?_) (fun h117 => ?_)
          · refine x_iconst (pc := 124) (v := (nI 0)) C dX12_not_124 (by decide) ?_
            exact x_iret (pc := 125) C X dX12_not_125 (by rw [lev, if_neg (fun e => absurd e.2 (of_decide_eq_false h15)), if_pos rfl]; rw [show chn Y n (4 - 2) (lev Y n g0 sub 2) 1 (lev Y n g0 sub 2 x) = (pJn (stp (4 - 2) (tkK Y n (lev Y n g0 sub 2 x).2.1)) (lev Y n g0 sub 2 x) (lev Y n g0 sub 2 (tkE Y n (lev Y n g0 sub 2 x).2.1))) from by rw [chn, if_neg (fun e => e.elim (fun e => by rw [hAa] at e; cases e) (by rw [of_decide_eq_true h72]; decide)), chn]]; exact ⟨_, rfl, prm_val hq99 rfl rfl (fun _ e => by show _ = zop (stp (4 - 2) (tkK Y n (lev Y n g0 sub 2 x).2.1)) ((lev Y n g0 sub 2 x).2.2.2 (nmO M)) ((lev Y n g0 sub 2 (tkE Y n (lev Y n g0 sub 2 x).2.1)).2.2.2 (nmO M)); rw [show tkK Y n (lev Y n g0 sub 2 x).2.1 = nI 61 from of_decide_eq_true h72, ← e, ← hwa, zp_e, decide_eq_false h117]; rfl)⟩)
          · refine x_iconst (pc := 120) (v := (nI 1)) C dX12_not_120 (by decide) ?_
            refine x_goto (pc := 121) C 125 dX12_not_121 (by decide) ?_
            exact x_iret (pc := 125) C X dX12_not_125 (by rw [lev, if_neg (fun e => absurd e.2 (of_decide_eq_false h15)), if_pos rfl]; rw [show chn Y n (4 - 2) (lev Y n g0 sub 2) 1 (lev Y n g0 sub 2 x) = (pJn (stp (4 - 2) (tkK Y n (lev Y n g0 sub 2 x).2.1)) (lev Y n g0 sub 2 x) (lev Y n g0 sub 2 (tkE Y n (lev Y n g0 sub 2 x).2.1))) from by rw [chn, if_neg (fun e => e.elim (fun e => by rw [hAa] at e; cases e) (by rw [of_decide_eq_true h72]; decide)), chn]]; exact ⟨_, rfl, prm_val hq99 rfl rfl (fun _ e => by show _ = zop (stp (4 - 2) (tkK Y n (lev Y n g0 sub 2 x).2.1)) ((lev Y n g0 sub 2 x).2.2.2 (nmO M)) ((lev Y n g0 sub 2 (tkE Y n (lev Y n g0 sub 2 x).2.1)).2.2.2 (nmO M)); rw [show tkK Y n (lev Y n g0 sub 2 x).2.1 = nI 61 from of_decide_eq_true h72, ← e, ← hwa, zp_e, decide_eq_true h117]; rfl)⟩)
        · refine x_iload_n (pc := 75) C 0 dX12_not_75 rfl ?_
          exact x_iret (pc := 76) C X dX12_not_76 (by rw [lev, if_neg (fun e => absurd e.2 (of_decide_eq_false h15)), if_pos rfl]; rw [show chn Y n (4 - 2) (lev Y n g0 sub 2) 1 (lev Y n g0 sub 2 x) = (lev Y n g0 sub 2 x) from by rw [chn, if_pos (Or.inr (stp_2 (of_decide_eq_false h63) (of_decide_eq_false h72)))]]; exact ⟨_, rfl, hq53⟩)
    
  · refine x_aload_n (pc := 18) C 0 dX12_not_18 rfl ?_
    by_cases hg0 : g = 0
    · refine x_callV (pc := 19) C E [] [] (c_X12_opens5 t (M := M) hT h0 (by rw [h25, hg0])) m_X12_opens q17_14 xo_M rfl (by omega) (Nat.le_of_ble_eq_true rfl) dX12_not_19 rfl (fun r M19 hc19 => ?_)
      obtain ⟨rfl, rfl⟩ := hc19
      have hgt : g0 = true := by rw [h0g]; exact decide_eq_true hg0
      show XV κ (xP (wR t) (mu (mu M 0 26 1) 0 27 (nI (tkP Y n x)))) 22 _ [.int (b2i false)]
      refine x_eq (show b2i false = 0 from rfl) ?_
      refine x_if_ne_f (pc := 22) C 27 dX12_not_22 (by decide) (by decide) ?_
      refine x_iconst (pc := 25) (v := (nI 0)) C dX12_not_25 (by decide) ?_
      exact x_iret (pc := 26) C X dX12_not_26 (by rw [lev, if_pos ⟨rfl, (show tkK Y n x = 9 from of_decide_eq_true h15)⟩, if_pos hgt]; exact prf_bad (fun a b hab => (by rw [mu_at, if_neg (by omega), mu_at, if_neg (by omega)])) rfl ((mu_k _ _ _ _ (by decide)).trans (mu_s _ _ _ _)) (mu_s _ _ _ _))
    · refine x_callV (pc := 19) C E [] [] (c_X12_opens t (M := M) hR hT h0 hxn h25 (by omega) (fun e => by rw [rt_keyR (j := 5) (by decide) (of_decide_eq_true h15)] at e; exact absurd e (by decide))) m_X12_opens q17_14 xo_M rfl (by omega) (Nat.le_of_ble_eq_true rfl) dX12_not_19 rfl (fun r M19 hc19 => ?_)
      obtain ⟨rfl, hT19, g2519, h019, hf19⟩ := hc19
      have hgf : g0 = false := by rw [h0g]; exact decide_eq_false hg0
      have h2519 : M19 0 25 = nI (5 - (g - 1)) := g2519.trans (by congr 1; omega)
      show XV κ (xP (wR t) M19) 22 _ [.int (b2i true)]
      refine x_eq (show b2i true = 1 from rfl) ?_
      refine x_if_ne_t (pc := 22) C 27 dX12_not_22 (by decide) (by decide) ?_
      refine x_aload_n (pc := 27) C 0 dX12_not_27 rfl ?_
      refine x_callV (pc := 28) C E [] [] (hN hgf _ (tkE Y n x) (tr_sp hR hf19) hT19 h2519 h019 (tkE_le (Y := Y) hxn)) m_X12_not q18_2 xo_M rfl (by omega) (Nat.le_of_ble_eq_true rfl) dX12_not_28 rfl (fun r M28 hc28 => ?_)
      obtain ⟨w28, rfl, hp28⟩ := hc28
      have hq28 := prm_pre (Sp.rf.tr hf19) hp28
      show XV κ (xP (wR t) M28) 31 _ [.int w28]
      refine x_istore_n (pc := 31) (L' := [(1, .int w28), (0, .ref (t.1 0))]) C dX12_not_31 (by decide) rfl ?_
      refine x_aload_n (pc := 32) C 1 dX12_not_32 rfl ?_
      refine x_dup (pc := 33) C dX12_not_33 rfl ?_
      refine g_M_open (pc := 34) C E q15_10 dX12_not_34 ?_
      refine x_iconst (pc := 37) (v := (nI 1)) C dX12_not_37 (by decide) ?_
      refine x_isub (pc := 38) C dX12_not_38 ?_
      refine p_M_open (pc := 39) C E q15_10 dX12_not_39 ?_
      refine x_iload_n (pc := 42) C 0 dX12_not_42 rfl ?_
      refine x_if_ne (pc := 43) C 50 dX12_not_43 (by decide) (fun h43 => ?_) (fun h43 => ?_)
      · refine x_iconst (pc := 50) (v := (nI 0)) C dX12_not_50 (by decide) ?_
        exact x_iret (pc := 51) C X dX12_not_51 (by rw [lev, if_pos ⟨rfl, (show tkK Y n x = 9 from of_decide_eq_true h15)⟩, if_neg (by rw [hgf]; decide)]; exact ⟨_, rfl, prm_dec (op := 5 - g) (R' := pDen (sub 3 (tkE Y n x))) hq28 (by omega) rfl rfl (fun _ e => by show _ = b2i (decide ((sub 3 (tkE Y n x)).2.2.2 (nmO M) = 0)); rw [← e, decide_eq_false h43]; rfl)⟩)
      · refine x_iconst (pc := 46) (v := (nI 1)) C dX12_not_46 (by decide) ?_
        refine x_goto (pc := 47) C 51 dX12_not_47 (by decide) ?_
        exact x_iret (pc := 51) C X dX12_not_51 (by rw [lev, if_pos ⟨rfl, (show tkK Y n x = 9 from of_decide_eq_true h15)⟩, if_neg (by rw [hgf]; decide)]; exact ⟨_, rfl, prm_dec (op := 5 - g) (R' := pDen (sub 3 (tkE Y n x))) hq28 (by omega) rfl rfl (fun _ e => by show _ = b2i (decide ((sub 3 (tkE Y n x)).2.2.2 (nmO M) = 0)); rw [← e, decide_eq_true h43]; rfl)⟩)

set_option maxRecDepth 100000 in
set_option maxHeartbeats 800000 in
theorem c_X12_both (t : CT) {Y : Nat → Int32} {n q : Nat} {g : Nat} (hg : g ≤ 5) {g0 : Bool} {sub : Nat → Nat → PR} {NN : Nat} (hS : (∀ (M : MM) (x : Nat), TR Y n q M → TkR Y n x M → M 0 25 = nI (5 - g) → M 0 26 = 0 → x ≤ n → XMet (wR t) yX12_not cX12_not 4 (some .int) (8 + 10 * g) [.ref (t.1 0)] M (PRf Y n (5 - g) (lev Y n g0 sub (2 + 1) x) M))) (hPGm : ∀ y, y ≤ n → PG n NN y (lev Y n g0 sub 3 y)) (M : MM) (x : Nat) (hR : TR Y n q M) (hT : TkR Y n x M) (h25 : M 0 25 = nI (5 - g)) (h0 : M 0 26 = 0) (hxn : x ≤ n) : XMet (wR t) yX12_both cX12_both 3 (some .int) (9 + 10 * g) [.ref (t.1 0)] M (PRf Y n (5 - g) (lev Y n g0 sub (3 + 1) x) M) := by
  refine x_met RX12 (by decide) rfl (Nat.le_of_ble_eq_true rfl) (fun κ C X E => ?_)
  refine x_L (L' := [(0, .ref (t.1 0))]) rfl ?_
  have h160 := hR.1
  have hq6 := hR.2.1
  refine x_aload_n (pc := 0) C 0 dX12_both_0 rfl ?_
  refine x_callV (pc := 1) C E [] [] (hS _ x hR hT h25 h0 hxn) m_X12_not q18_2 xo_M rfl (by omega) (Nat.le_of_ble_eq_true rfl) dX12_both_1 rfl (fun r M1 hc1 => ?_)
  obtain ⟨w1, rfl, hp1⟩ := hc1
  have hq1 := prm_pre Sp.rf hp1
  show XV κ (xP (wR t) M1) 4 _ [.int w1]
  refine x_istore_n (pc := 4) (L' := [(1, .int w1), (0, .ref (t.1 0))]) C dX12_both_4 (by decide) rfl ?_
  have loop5 : ∀ (k i : Nat) (Mx : MM) (A : PR) (w : Int32), i + k = 160 → PRm Y n (5 - g) A w M Mx → PG n (NN + 1) x A → (A.1 = true → i ≤ A.2.1) → chn Y n 1 (lev Y n g0 sub 3) k A = lev Y n g0 sub (3 + 1) x → XV κ (xP (wR t) Mx) 5 [(0, .ref (t.1 0)), (1, .int w)] [] := by
    intro k
    induction k with
      | zero =>
        intro i  Mx A w hcnt  eMx hPA hiA hch
        obtain rfl : 160 = i := by omega
        cases hAL : A.1 with
        | false =>
          obtain ⟨hbL, hcL⟩ := eMx.2.2 hAL
          refine x_aload_n (pc := 5) C 0 dX12_both_5 rfl ?_
          refine x_bipush (pc := 6) (v := (nI 97)) C dX12_both_6 (by decide) ?_
          refine x_bipush (pc := 8) (v := (nI 110)) C dX12_both_8 (by decide) ?_
          refine x_bipush (pc := 10) (v := (nI 100)) C dX12_both_10 (by decide) ?_
          refine x_iconst (pc := 12) (v := (nI 0)) C dX12_both_12 (by decide) ?_
          refine x_iconst (pc := 13) (v := (nI 0)) C dX12_both_13 (by decide) ?_
          refine x_iconst (pc := 14) (v := (nI 0)) C dX12_both_14 (by decide) ?_
          refine x_iconst (pc := 15) (v := (nI 0)) C dX12_both_15 (by decide) ?_
          refine x_iconst (pc := 16) (v := (nI 0)) C dX12_both_16 (by decide) ?_
          refine x_callV (pc := 17) C E [.int (nI 97), .int (nI 110), .int (nI 100), .int (nI 0), .int (nI 0), .int (nI 0), .int (nI 0), .int (nI 0)] [] (c_X12_isWord_b t (M := Mx) hbL _ _ _ _ _ _ _ _) m_X12_isWord q16_4 xo_M rfl (by first | decide | omega) (Nat.le_of_ble_eq_true rfl) dX12_both_17 rfl (k_I ?_)
          refine x_eq (show b2i false = 0 from rfl) ?_
          refine x_if_eq_t (pc := 20) C 49 dX12_both_20 (by decide) (by decide) ?_
          refine x_iload_n (pc := 49) C 1 dX12_both_49 rfl ?_
          exact x_iret (pc := 50) C X dX12_both_50 (by rw [← hch, chn]; exact ⟨_, rfl, eMx⟩)
        | true =>
          obtain ⟨hwL, hTL, h25L, h0L⟩ := eMx.2.1 hAL
          have hxnL : A.2.1 ≤ n := hPA.1
          refine x_aload_n (pc := 5) C 0 dX12_both_5 rfl ?_
          have hz : tkK Y n A.2.1 = 0 := (tk_end (Y := Y) (by have h1 := hiA hAL; have h2 := hPA.1; have h3 := (tkP_le (Y := Y) h2).1; omega)).2
          refine x_bipush (pc := 6) (v := (nI 97)) C dX12_both_6 (by decide) ?_
          refine x_bipush (pc := 8) (v := (nI 110)) C dX12_both_8 (by decide) ?_
          refine x_bipush (pc := 10) (v := (nI 100)) C dX12_both_10 (by decide) ?_
          refine x_iconst (pc := 12) (v := (nI 0)) C dX12_both_12 (by decide) ?_
          refine x_iconst (pc := 13) (v := (nI 0)) C dX12_both_13 (by decide) ?_
          refine x_iconst (pc := 14) (v := (nI 0)) C dX12_both_14 (by decide) ?_
          refine x_iconst (pc := 15) (v := (nI 0)) C dX12_both_15 (by decide) ?_
          refine x_iconst (pc := 16) (v := (nI 0)) C dX12_both_16 (by decide) ?_
          refine x_callV (pc := 17) C E [.int (nI 97), .int (nI 110), .int (nI 100), .int (nI 0), .int (nI 0), .int (nI 0), .int (nI 0), .int (nI 0)] [] (c_X12_isWord t (M := Mx) (tr_sp hR eMx.1) hTL h0L hxnL (j := 4) (by decide)) m_X12_isWord q16_4 xo_M rfl (by first | decide | omega) (Nat.le_of_ble_eq_true rfl) dX12_both_17 rfl (k_I ?_)
          refine x_eq (show _ = b2i (decide (tkK Y n (A.2.1) = nI 8)) from (by rw [rt_key (by decide)])) ?_
          refine x_if_eq_t (pc := 20) C 49 dX12_both_20 (by decide) (by rw [hz]; decide) ?_
          refine x_iload_n (pc := 49) C 1 dX12_both_49 rfl ?_
          exact x_iret (pc := 50) C X dX12_both_50 (by rw [← hch, chn]; exact ⟨_, rfl, eMx⟩)
        
      | succ k ih =>
        intro i  Mx A w hcnt  eMx hPA hiA hch
        have hi5 : i < 160 := by omega
        cases hAL : A.1 with
        | false =>
          obtain ⟨hbL, hcL⟩ := eMx.2.2 hAL
          refine x_aload_n (pc := 5) C 0 dX12_both_5 rfl ?_
          refine x_bipush (pc := 6) (v := (nI 97)) C dX12_both_6 (by decide) ?_
          refine x_bipush (pc := 8) (v := (nI 110)) C dX12_both_8 (by decide) ?_
          refine x_bipush (pc := 10) (v := (nI 100)) C dX12_both_10 (by decide) ?_
          refine x_iconst (pc := 12) (v := (nI 0)) C dX12_both_12 (by decide) ?_
          refine x_iconst (pc := 13) (v := (nI 0)) C dX12_both_13 (by decide) ?_
          refine x_iconst (pc := 14) (v := (nI 0)) C dX12_both_14 (by decide) ?_
          refine x_iconst (pc := 15) (v := (nI 0)) C dX12_both_15 (by decide) ?_
          refine x_iconst (pc := 16) (v := (nI 0)) C dX12_both_16 (by decide) ?_
          refine x_callV (pc := 17) C E [.int (nI 97), .int (nI 110), .int (nI 100), .int (nI 0), .int (nI 0), .int (nI 0), .int (nI 0), .int (nI 0)] [] (c_X12_isWord_b t (M := Mx) hbL _ _ _ _ _ _ _ _) m_X12_isWord q16_4 xo_M rfl (by first | decide | omega) (Nat.le_of_ble_eq_true rfl) dX12_both_17 rfl (k_I ?_)
          refine x_eq (show b2i false = 0 from rfl) ?_
          refine x_if_eq_t (pc := 20) C 49 dX12_both_20 (by decide) (by decide) ?_
          refine x_iload_n (pc := 49) C 1 dX12_both_49 rfl ?_
          exact x_iret (pc := 50) C X dX12_both_50 (by rw [← hch, chn, if_pos (Or.inl hAL)]; exact ⟨_, rfl, eMx⟩)
        | true =>
          obtain ⟨hwL, hTL, h25L, h0L⟩ := eMx.2.1 hAL
          have hxnL : A.2.1 ≤ n := hPA.1
          refine x_aload_n (pc := 5) C 0 dX12_both_5 rfl ?_
          refine x_bipush (pc := 6) (v := (nI 97)) C dX12_both_6 (by decide) ?_
          refine x_bipush (pc := 8) (v := (nI 110)) C dX12_both_8 (by decide) ?_
          refine x_bipush (pc := 10) (v := (nI 100)) C dX12_both_10 (by decide) ?_
          refine x_iconst (pc := 12) (v := (nI 0)) C dX12_both_12 (by decide) ?_
          refine x_iconst (pc := 13) (v := (nI 0)) C dX12_both_13 (by decide) ?_
          refine x_iconst (pc := 14) (v := (nI 0)) C dX12_both_14 (by decide) ?_
          refine x_iconst (pc := 15) (v := (nI 0)) C dX12_both_15 (by decide) ?_
          refine x_iconst (pc := 16) (v := (nI 0)) C dX12_both_16 (by decide) ?_
          refine x_callV (pc := 17) C E [.int (nI 97), .int (nI 110), .int (nI 100), .int (nI 0), .int (nI 0), .int (nI 0), .int (nI 0), .int (nI 0)] [] (c_X12_isWord t (M := Mx) (tr_sp hR eMx.1) hTL h0L hxnL (j := 4) (by decide)) m_X12_isWord q16_4 xo_M rfl (by first | decide | omega) (Nat.le_of_ble_eq_true rfl) dX12_both_17 rfl (k_I ?_)
          refine x_eq (show _ = b2i (decide (tkK Y n (A.2.1) = nI 8)) from (by rw [rt_key (by decide)])) ?_
          refine x_ifb_eq (pc := 20) C 49 dX12_both_20 (by decide) (fun h20 => ?_) (fun h20 => ?_)
          · refine x_iload_n (pc := 49) C 1 dX12_both_49 rfl ?_
            exact x_iret (pc := 50) C X dX12_both_50 (by rw [← hch, chn, if_pos (Or.inr (stp_1 (of_decide_eq_false h20)))]; exact ⟨_, rfl, eMx⟩)
          · refine x_aload_n (pc := 23) C 0 dX12_both_23 rfl ?_
            have hTn24 : TkR Y n (A.2.1) (Mx) := hTL
            have hRn24 : TR Y n q (Mx) := (tr_sp hR eMx.1)
            have hfn24 : Sp M (Mx) := eMx.1
            have h0n24 : (Mx) 0 26 = 0 := (by exact h0L)
            have hxn24 := tkE_le (Y := Y) hxnL
            refine x_callV (pc := 24) C E [] [] (c_X12_next t (M := Mx) hRn24 (x := tkE Y n (A.2.1)) (hTn24.2.2.1 (fun e => by rw [rt_keyR (j := 4) (by decide) (of_decide_eq_true h20)] at e; exact absurd e (by decide))) hxn24) m_X12_next q15_13 xo_M rfl (by first | decide | omega) (Nat.le_of_ble_eq_true rfl) dX12_both_24 rfl (fun r M24 hc24 => ?_)
            obtain ⟨rfl, hT24, hs24⟩ := hc24
            show XV κ (xP (wR t) M24) 27 _ []
            refine x_aload_n (pc := 27) C 0 dX12_both_27 rfl ?_
            refine x_callV (pc := 28) C E [] [] (hS _ (tkE Y n (A.2.1)) (tr_sp hRn24 hs24.sp) hT24 ((hs24 _ _ (by omega)).trans h25L) ((hs24 _ _ (by omega)).trans h0n24) hxn24) m_X12_not q18_2 xo_M rfl (by omega) (Nat.le_of_ble_eq_true rfl) dX12_both_28 rfl (fun r M28 hc28 => ?_)
            obtain ⟨w28, rfl, hp28⟩ := hc28
            have hq28 := prm_pre (hfn24.tr hs24.sp) hp28
            show XV κ (xP (wR t) M28) 31 _ [.int w28]
            refine x_istore_n (pc := 31) (L' := [(2, .int w28), (0, .ref (t.1 0)), (1, .int w)]) C dX12_both_31 (by decide) rfl ?_
            refine x_iload_n (pc := 32) C 2 dX12_both_32 rfl ?_
            refine x_if_eq (pc := 33) C 44 dX12_both_33 (by decide) (fun h33 => ?_) (fun h33 => ?_)
            · refine x_iconst (pc := 44) (v := (nI 0)) C dX12_both_44 (by decide) ?_
              refine x_istore_n (pc := 45) (L' := [(1, .int (nI 0)), (2, .int w28), (0, .ref (t.1 0))]) C dX12_both_45 (by decide) rfl ?_
              refine x_goto (pc := 46) C 5 dX12_both_46 (by decide) ?_
              refine x_sub [2, 0] rfl ?_
              have hk : tkK Y n A.2.1 = nI 8 := of_decide_eq_true h20
              have hst : ¬ stp 1 (tkK Y n A.2.1) = -1 := by rw [hk]; decide
              have hPJ := PG_jn (Y := Y) (l := 1) hPGm hPA hAL hst
              have hCN : chn Y n 1 (lev Y n g0 sub 3) (k + 1) A = chn Y n 1 (lev Y n g0 sub 3) k (pJn (stp 1 (tkK Y n A.2.1)) A (lev Y n g0 sub 3 (tkE Y n A.2.1))) := by rw [chn, if_neg (fun e => e.elim (fun e => by rw [hAL] at e; cases e) hst)]
              have had := tk_adv (Y := Y) hPA.1 (stp_j hst).2
              refine ih (i + 1) _ (pJn (stp 1 (tkK Y n A.2.1)) A (lev Y n g0 sub 3 (tkE Y n A.2.1))) _ (by omega) (prm_val hq28 rfl rfl (fun _ e => ?_)) hPJ (fun hr => ?_) (by rw [← hch, hCN])
              · show _ = zop (stp 1 (tkK Y n A.2.1)) (A.2.2.2 (nmO M)) ((lev Y n g0 sub 3 (tkE Y n A.2.1)).2.2.2 (nmO M))
                rw [hk, ← e, ← hwL]
                rw [zp_a, decide_eq_false (fun g => g h33)]; rfl
              · have h1 := hiA hAL
                have h2 := ((hPGm _ had.2).2 hr).2.1
                show i + 1 ≤ (lev Y n g0 sub 3 (tkE Y n A.2.1)).2.1
                omega
            · refine x_iload_n (pc := 36) C 0 dX12_both_36 rfl ?_
              refine x_if_eq (pc := 37) C 44 dX12_both_37 (by decide) (fun h37 => ?_) (fun h37 => ?_)
              · refine x_iconst (pc := 44) (v := (nI 0)) C dX12_both_44 (by decide) ?_
                refine x_istore_n (pc := 45) (L' := [(1, .int (nI 0)), (2, .int w28), (0, .ref (t.1 0))]) C dX12_both_45 (by decide) rfl ?_
                refine x_goto (pc := 46) C 5 dX12_both_46 (by decide) ?_
                refine x_sub [2, 0] rfl ?_
                have hk : tkK Y n A.2.1 = nI 8 := of_decide_eq_true h20
                have hst : ¬ stp 1 (tkK Y n A.2.1) = -1 := by rw [hk]; decide
                have hPJ := PG_jn (Y := Y) (l := 1) hPGm hPA hAL hst
                have hCN : chn Y n 1 (lev Y n g0 sub 3) (k + 1) A = chn Y n 1 (lev Y n g0 sub 3) k (pJn (stp 1 (tkK Y n A.2.1)) A (lev Y n g0 sub 3 (tkE Y n A.2.1))) := by rw [chn, if_neg (fun e => e.elim (fun e => by rw [hAL] at e; cases e) hst)]
                have had := tk_adv (Y := Y) hPA.1 (stp_j hst).2
                refine ih (i + 1) _ (pJn (stp 1 (tkK Y n A.2.1)) A (lev Y n g0 sub 3 (tkE Y n A.2.1))) _ (by omega) (prm_val hq28 rfl rfl (fun _ e => ?_)) hPJ (fun hr => ?_) (by rw [← hch, hCN])
                · show _ = zop (stp 1 (tkK Y n A.2.1)) (A.2.2.2 (nmO M)) ((lev Y n g0 sub 3 (tkE Y n A.2.1)).2.2.2 (nmO M))
                  rw [hk, ← e, ← hwL]
                  rw [zp_a, decide_eq_true h33, decide_eq_false (fun g => g h37)]; rfl
                · have h1 := hiA hAL
                  have h2 := ((hPGm _ had.2).2 hr).2.1
                  show i + 1 ≤ (lev Y n g0 sub 3 (tkE Y n A.2.1)).2.1
                  omega
              · refine x_iconst (pc := 40) (v := (nI 1)) C dX12_both_40 (by decide) ?_
                refine x_goto (pc := 41) C 45 dX12_both_41 (by decide) ?_
                refine x_istore_n (pc := 45) (L' := [(1, .int (nI 1)), (2, .int w28), (0, .ref (t.1 0))]) C dX12_both_45 (by decide) rfl ?_
                refine x_goto (pc := 46) C 5 dX12_both_46 (by decide) ?_
                refine x_sub [2, 0] rfl ?_
                have hk : tkK Y n A.2.1 = nI 8 := of_decide_eq_true h20
                have hst : ¬ stp 1 (tkK Y n A.2.1) = -1 := by rw [hk]; decide
                have hPJ := PG_jn (Y := Y) (l := 1) hPGm hPA hAL hst
                have hCN : chn Y n 1 (lev Y n g0 sub 3) (k + 1) A = chn Y n 1 (lev Y n g0 sub 3) k (pJn (stp 1 (tkK Y n A.2.1)) A (lev Y n g0 sub 3 (tkE Y n A.2.1))) := by rw [chn, if_neg (fun e => e.elim (fun e => by rw [hAL] at e; cases e) hst)]
                have had := tk_adv (Y := Y) hPA.1 (stp_j hst).2
                refine ih (i + 1) _ (pJn (stp 1 (tkK Y n A.2.1)) A (lev Y n g0 sub 3 (tkE Y n A.2.1))) _ (by omega) (prm_val hq28 rfl rfl (fun _ e => ?_)) hPJ (fun hr => ?_) (by rw [← hch, hCN])
                · show _ = zop (stp 1 (tkK Y n A.2.1)) (A.2.2.2 (nmO M)) ((lev Y n g0 sub 3 (tkE Y n A.2.1)).2.2.2 (nmO M))
                  rw [hk, ← e, ← hwL]
                  rw [zp_a, decide_eq_true h33, decide_eq_true h37]; rfl
                · have h1 := hiA hAL
                  have h2 := ((hPGm _ had.2).2 hr).2.1
                  show i + 1 ≤ (lev Y n g0 sub 3 (tkE Y n A.2.1)).2.1
                  omega
        
  refine x_sub [1, 0] rfl ?_
  exact loop5 160 0 _ (lev Y n g0 sub 3 x) _ (by omega) hq1 ⟨(hPGm x hxn).1, fun hr => ⟨((hPGm x hxn).2 hr).1, ((hPGm x hxn).2 hr).2.1, PE_up ((hPGm x hxn).2 hr).2.2 (by omega)⟩⟩ (fun _ => Nat.zero_le _) (lev_S (m := 3) (by decide))

set_option maxRecDepth 100000 in
set_option maxHeartbeats 800000 in
theorem c_X12_either (t : CT) {Y : Nat → Int32} {n q : Nat} {g : Nat} (hg : g ≤ 5) {g0 : Bool} {sub : Nat → Nat → PR} {NN : Nat} (hS : (∀ (M : MM) (x : Nat), TR Y n q M → TkR Y n x M → M 0 25 = nI (5 - g) → M 0 26 = 0 → x ≤ n → XMet (wR t) yX12_both cX12_both 3 (some .int) (9 + 10 * g) [.ref (t.1 0)] M (PRf Y n (5 - g) (lev Y n g0 sub (3 + 1) x) M))) (hPGm : ∀ y, y ≤ n → PG n NN y (lev Y n g0 sub 4 y)) (M : MM) (x : Nat) (hR : TR Y n q M) (hT : TkR Y n x M) (h25 : M 0 25 = nI (5 - g)) (h0 : M 0 26 = 0) (hxn : x ≤ n) : XMet (wR t) yX12_either cX12_either 3 (some .int) (10 + 10 * g) [.ref (t.1 0)] M (PRf Y n (5 - g) (lev Y n g0 sub (4 + 1) x) M) := by
  refine x_met RX12 (by decide) rfl (Nat.le_of_ble_eq_true rfl) (fun κ C X E => ?_)
  refine x_L (L' := [(0, .ref (t.1 0))]) rfl ?_
  have h160 := hR.1
  have hq6 := hR.2.1
  refine x_aload_n (pc := 0) C 0 dX12_either_0 rfl ?_
  refine x_callV (pc := 1) C E [] [] (hS _ x hR hT h25 h0 hxn) m_X12_both q17_1 xo_M rfl (by omega) (Nat.le_of_ble_eq_true rfl) dX12_either_1 rfl (fun r M1 hc1 => ?_)
  obtain ⟨w1, rfl, hp1⟩ := hc1
  have hq1 := prm_pre Sp.rf hp1
  show XV κ (xP (wR t) M1) 4 _ [.int w1]
  refine x_istore_n (pc := 4) (L' := [(1, .int w1), (0, .ref (t.1 0))]) C dX12_either_4 (by decide) rfl ?_
  have loop5 : ∀ (k i : Nat) (Mx : MM) (A : PR) (w : Int32), i + k = 160 → PRm Y n (5 - g) A w M Mx → PG n (NN + 1) x A → (A.1 = true → i ≤ A.2.1) → chn Y n 0 (lev Y n g0 sub 4) k A = lev Y n g0 sub (4 + 1) x → XV κ (xP (wR t) Mx) 5 [(0, .ref (t.1 0)), (1, .int w)] [] := by
    intro k
    induction k with
      | zero =>
        intro i  Mx A w hcnt  eMx hPA hiA hch
        obtain rfl : 160 = i := by omega
        cases hAL : A.1 with
        | false =>
          obtain ⟨hbL, hcL⟩ := eMx.2.2 hAL
          refine x_aload_n (pc := 5) C 0 dX12_either_5 rfl ?_
          refine x_bipush (pc := 6) (v := (nI 111)) C dX12_either_6 (by decide) ?_
          refine x_bipush (pc := 8) (v := (nI 114)) C dX12_either_8 (by decide) ?_
          refine x_iconst (pc := 10) (v := (nI 0)) C dX12_either_10 (by decide) ?_
          refine x_iconst (pc := 11) (v := (nI 0)) C dX12_either_11 (by decide) ?_
          refine x_iconst (pc := 12) (v := (nI 0)) C dX12_either_12 (by decide) ?_
          refine x_iconst (pc := 13) (v := (nI 0)) C dX12_either_13 (by decide) ?_
          refine x_iconst (pc := 14) (v := (nI 0)) C dX12_either_14 (by decide) ?_
          refine x_iconst (pc := 15) (v := (nI 0)) C dX12_either_15 (by decide) ?_
          refine x_callV (pc := 16) C E [.int (nI 111), .int (nI 114), .int (nI 0), .int (nI 0), .int (nI 0), .int (nI 0), .int (nI 0), .int (nI 0)] [] (c_X12_isWord_b t (M := Mx) hbL _ _ _ _ _ _ _ _) m_X12_isWord q16_4 xo_M rfl (by first | decide | omega) (Nat.le_of_ble_eq_true rfl) dX12_either_16 rfl (k_I ?_)
          refine x_eq (show b2i false = 0 from rfl) ?_
          refine x_if_eq_t (pc := 19) C 48 dX12_either_19 (by decide) (by decide) ?_
          refine x_iload_n (pc := 48) C 1 dX12_either_48 rfl ?_
          exact x_iret (pc := 49) C X dX12_either_49 (by rw [← hch, chn]; exact ⟨_, rfl, eMx⟩)
        | true =>
          obtain ⟨hwL, hTL, h25L, h0L⟩ := eMx.2.1 hAL
          have hxnL : A.2.1 ≤ n := hPA.1
          refine x_aload_n (pc := 5) C 0 dX12_either_5 rfl ?_
          have hz : tkK Y n A.2.1 = 0 := (tk_end (Y := Y) (by have h1 := hiA hAL; have h2 := hPA.1; have h3 := (tkP_le (Y := Y) h2).1; omega)).2
          refine x_bipush (pc := 6) (v := (nI 111)) C dX12_either_6 (by decide) ?_
          refine x_bipush (pc := 8) (v := (nI 114)) C dX12_either_8 (by decide) ?_
          refine x_iconst (pc := 10) (v := (nI 0)) C dX12_either_10 (by decide) ?_
          refine x_iconst (pc := 11) (v := (nI 0)) C dX12_either_11 (by decide) ?_
          refine x_iconst (pc := 12) (v := (nI 0)) C dX12_either_12 (by decide) ?_
          refine x_iconst (pc := 13) (v := (nI 0)) C dX12_either_13 (by decide) ?_
          refine x_iconst (pc := 14) (v := (nI 0)) C dX12_either_14 (by decide) ?_
          refine x_iconst (pc := 15) (v := (nI 0)) C dX12_either_15 (by decide) ?_
          refine x_callV (pc := 16) C E [.int (nI 111), .int (nI 114), .int (nI 0), .int (nI 0), .int (nI 0), .int (nI 0), .int (nI 0), .int (nI 0)] [] (c_X12_isWord t (M := Mx) (tr_sp hR eMx.1) hTL h0L hxnL (j := 3) (by decide)) m_X12_isWord q16_4 xo_M rfl (by first | decide | omega) (Nat.le_of_ble_eq_true rfl) dX12_either_16 rfl (k_I ?_)
          refine x_eq (show _ = b2i (decide (tkK Y n (A.2.1) = nI 7)) from (by rw [rt_key (by decide)])) ?_
          refine x_if_eq_t (pc := 19) C 48 dX12_either_19 (by decide) (by rw [hz]; decide) ?_
          refine x_iload_n (pc := 48) C 1 dX12_either_48 rfl ?_
          exact x_iret (pc := 49) C X dX12_either_49 (by rw [← hch, chn]; exact ⟨_, rfl, eMx⟩)
        
      | succ k ih =>
        intro i  Mx A w hcnt  eMx hPA hiA hch
        have hi5 : i < 160 := by omega
        cases hAL : A.1 with
        | false =>
          obtain ⟨hbL, hcL⟩ := eMx.2.2 hAL
          refine x_aload_n (pc := 5) C 0 dX12_either_5 rfl ?_
          refine x_bipush (pc := 6) (v := (nI 111)) C dX12_either_6 (by decide) ?_
          refine x_bipush (pc := 8) (v := (nI 114)) C dX12_either_8 (by decide) ?_
          refine x_iconst (pc := 10) (v := (nI 0)) C dX12_either_10 (by decide) ?_
          refine x_iconst (pc := 11) (v := (nI 0)) C dX12_either_11 (by decide) ?_
          refine x_iconst (pc := 12) (v := (nI 0)) C dX12_either_12 (by decide) ?_
          refine x_iconst (pc := 13) (v := (nI 0)) C dX12_either_13 (by decide) ?_
          refine x_iconst (pc := 14) (v := (nI 0)) C dX12_either_14 (by decide) ?_
          refine x_iconst (pc := 15) (v := (nI 0)) C dX12_either_15 (by decide) ?_
          refine x_callV (pc := 16) C E [.int (nI 111), .int (nI 114), .int (nI 0), .int (nI 0), .int (nI 0), .int (nI 0), .int (nI 0), .int (nI 0)] [] (c_X12_isWord_b t (M := Mx) hbL _ _ _ _ _ _ _ _) m_X12_isWord q16_4 xo_M rfl (by first | decide | omega) (Nat.le_of_ble_eq_true rfl) dX12_either_16 rfl (k_I ?_)
          refine x_eq (show b2i false = 0 from rfl) ?_
          refine x_if_eq_t (pc := 19) C 48 dX12_either_19 (by decide) (by decide) ?_
          refine x_iload_n (pc := 48) C 1 dX12_either_48 rfl ?_
          exact x_iret (pc := 49) C X dX12_either_49 (by rw [← hch, chn, if_pos (Or.inl hAL)]; exact ⟨_, rfl, eMx⟩)
        | true =>
          obtain ⟨hwL, hTL, h25L, h0L⟩ := eMx.2.1 hAL
          have hxnL : A.2.1 ≤ n := hPA.1
          refine x_aload_n (pc := 5) C 0 dX12_either_5 rfl ?_
          refine x_bipush (pc := 6) (v := (nI 111)) C dX12_either_6 (by decide) ?_
          refine x_bipush (pc := 8) (v := (nI 114)) C dX12_either_8 (by decide) ?_
          refine x_iconst (pc := 10) (v := (nI 0)) C dX12_either_10 (by decide) ?_
          refine x_iconst (pc := 11) (v := (nI 0)) C dX12_either_11 (by decide) ?_
          refine x_iconst (pc := 12) (v := (nI 0)) C dX12_either_12 (by decide) ?_
          refine x_iconst (pc := 13) (v := (nI 0)) C dX12_either_13 (by decide) ?_
          refine x_iconst (pc := 14) (v := (nI 0)) C dX12_either_14 (by decide) ?_
          refine x_iconst (pc := 15) (v := (nI 0)) C dX12_either_15 (by decide) ?_
          refine x_callV (pc := 16) C E [.int (nI 111), .int (nI 114), .int (nI 0), .int (nI 0), .int (nI 0), .int (nI 0), .int (nI 0), .int (nI 0)] [] (c_X12_isWord t (M := Mx) (tr_sp hR eMx.1) hTL h0L hxnL (j := 3) (by decide)) m_X12_isWord q16_4 xo_M rfl (by first | decide | omega) (Nat.le_of_ble_eq_true rfl) dX12_either_16 rfl (k_I ?_)
          refine x_eq (show _ = b2i (decide (tkK Y n (A.2.1) = nI 7)) from (by rw [rt_key (by decide)])) ?_
          refine x_ifb_eq (pc := 19) C 48 dX12_either_19 (by decide) (fun h19 => ?_) (fun h19 => ?_)
          · refine x_iload_n (pc := 48) C 1 dX12_either_48 rfl ?_
            exact x_iret (pc := 49) C X dX12_either_49 (by rw [← hch, chn, if_pos (Or.inr (stp_0 (of_decide_eq_false h19)))]; exact ⟨_, rfl, eMx⟩)
          · refine x_aload_n (pc := 22) C 0 dX12_either_22 rfl ?_
            have hTn23 : TkR Y n (A.2.1) (Mx) := hTL
            have hRn23 : TR Y n q (Mx) := (tr_sp hR eMx.1)
            have hfn23 : Sp M (Mx) := eMx.1
            have h0n23 : (Mx) 0 26 = 0 := (by exact h0L)
            have hxn23 := tkE_le (Y := Y) hxnL
            refine x_callV (pc := 23) C E [] [] (c_X12_next t (M := Mx) hRn23 (x := tkE Y n (A.2.1)) (hTn23.2.2.1 (fun e => by rw [rt_keyR (j := 3) (by decide) (of_decide_eq_true h19)] at e; exact absurd e (by decide))) hxn23) m_X12_next q15_13 xo_M rfl (by first | decide | omega) (Nat.le_of_ble_eq_true rfl) dX12_either_23 rfl (fun r M23 hc23 => ?_)
            obtain ⟨rfl, hT23, hs23⟩ := hc23
            show XV κ (xP (wR t) M23) 26 _ []
            refine x_aload_n (pc := 26) C 0 dX12_either_26 rfl ?_
            refine x_callV (pc := 27) C E [] [] (hS _ (tkE Y n (A.2.1)) (tr_sp hRn23 hs23.sp) hT23 ((hs23 _ _ (by omega)).trans h25L) ((hs23 _ _ (by omega)).trans h0n23) hxn23) m_X12_both q17_1 xo_M rfl (by omega) (Nat.le_of_ble_eq_true rfl) dX12_either_27 rfl (fun r M27 hc27 => ?_)
            obtain ⟨w27, rfl, hp27⟩ := hc27
            have hq27 := prm_pre (hfn23.tr hs23.sp) hp27
            show XV κ (xP (wR t) M27) 30 _ [.int w27]
            refine x_istore_n (pc := 30) (L' := [(2, .int w27), (0, .ref (t.1 0)), (1, .int w)]) C dX12_either_30 (by decide) rfl ?_
            refine x_iload_n (pc := 31) C 2 dX12_either_31 rfl ?_
            refine x_if_ne (pc := 32) C 39 dX12_either_32 (by decide) (fun h32 => ?_) (fun h32 => ?_)
            · refine x_iconst (pc := 39) (v := (nI 1)) C dX12_either_39 (by decide) ?_
              refine x_goto (pc := 40) C 44 dX12_either_40 (by decide) ?_
              refine x_istore_n (pc := 44) (L' := [(1, .int (nI 1)), (2, .int w27), (0, .ref (t.1 0))]) C dX12_either_44 (by decide) rfl ?_
              refine x_goto (pc := 45) C 5 dX12_either_45 (by decide) ?_
              refine x_sub [2, 0] rfl ?_
              have hk : tkK Y n A.2.1 = nI 7 := of_decide_eq_true h19
              have hst : ¬ stp 0 (tkK Y n A.2.1) = -1 := by rw [hk]; decide
              have hPJ := PG_jn (Y := Y) (l := 0) hPGm hPA hAL hst
              have hCN : chn Y n 0 (lev Y n g0 sub 4) (k + 1) A = chn Y n 0 (lev Y n g0 sub 4) k (pJn (stp 0 (tkK Y n A.2.1)) A (lev Y n g0 sub 4 (tkE Y n A.2.1))) := by rw [chn, if_neg (fun e => e.elim (fun e => by rw [hAL] at e; cases e) hst)]
              have had := tk_adv (Y := Y) hPA.1 (stp_j hst).2
              refine ih (i + 1) _ (pJn (stp 0 (tkK Y n A.2.1)) A (lev Y n g0 sub 4 (tkE Y n A.2.1))) _ (by omega) (prm_val hq27 rfl rfl (fun _ e => ?_)) hPJ (fun hr => ?_) (by rw [← hch, hCN])
              · show _ = zop (stp 0 (tkK Y n A.2.1)) (A.2.2.2 (nmO M)) ((lev Y n g0 sub 4 (tkE Y n A.2.1)).2.2.2 (nmO M))
                rw [hk, ← e, ← hwL]
                rw [zp_o, decide_eq_true h32]; rfl
              · have h1 := hiA hAL
                have h2 := ((hPGm _ had.2).2 hr).2.1
                show i + 1 ≤ (lev Y n g0 sub 4 (tkE Y n A.2.1)).2.1
                omega
            · refine x_iload_n (pc := 35) C 0 dX12_either_35 rfl ?_
              refine x_if_eq (pc := 36) C 43 dX12_either_36 (by decide) (fun h36 => ?_) (fun h36 => ?_)
              · refine x_iconst (pc := 43) (v := (nI 0)) C dX12_either_43 (by decide) ?_
                refine x_istore_n (pc := 44) (L' := [(1, .int (nI 0)), (2, .int w27), (0, .ref (t.1 0))]) C dX12_either_44 (by decide) rfl ?_
                refine x_goto (pc := 45) C 5 dX12_either_45 (by decide) ?_
                refine x_sub [2, 0] rfl ?_
                have hk : tkK Y n A.2.1 = nI 7 := of_decide_eq_true h19
                have hst : ¬ stp 0 (tkK Y n A.2.1) = -1 := by rw [hk]; decide
                have hPJ := PG_jn (Y := Y) (l := 0) hPGm hPA hAL hst
                have hCN : chn Y n 0 (lev Y n g0 sub 4) (k + 1) A = chn Y n 0 (lev Y n g0 sub 4) k (pJn (stp 0 (tkK Y n A.2.1)) A (lev Y n g0 sub 4 (tkE Y n A.2.1))) := by rw [chn, if_neg (fun e => e.elim (fun e => by rw [hAL] at e; cases e) hst)]
                have had := tk_adv (Y := Y) hPA.1 (stp_j hst).2
                refine ih (i + 1) _ (pJn (stp 0 (tkK Y n A.2.1)) A (lev Y n g0 sub 4 (tkE Y n A.2.1))) _ (by omega) (prm_val hq27 rfl rfl (fun _ e => ?_)) hPJ (fun hr => ?_) (by rw [← hch, hCN])
                · show _ = zop (stp 0 (tkK Y n A.2.1)) (A.2.2.2 (nmO M)) ((lev Y n g0 sub 4 (tkE Y n A.2.1)).2.2.2 (nmO M))
                  rw [hk, ← e, ← hwL]
                  rw [zp_o, decide_eq_false (fun g => g h32), decide_eq_false (fun g => g h36)]; rfl
                · have h1 := hiA hAL
                  have h2 := ((hPGm _ had.2).2 hr).2.1
                  show i + 1 ≤ (lev Y n g0 sub 4 (tkE Y n A.2.1)).2.1
                  omega
              · refine x_iconst (pc := 39) (v := (nI 1)) C dX12_either_39 (by decide) ?_
                refine x_goto (pc := 40) C 44 dX12_either_40 (by decide) ?_
                refine x_istore_n (pc := 44) (L' := [(1, .int (nI 1)), (2, .int w27), (0, .ref (t.1 0))]) C dX12_either_44 (by decide) rfl ?_
                refine x_goto (pc := 45) C 5 dX12_either_45 (by decide) ?_
                refine x_sub [2, 0] rfl ?_
                have hk : tkK Y n A.2.1 = nI 7 := of_decide_eq_true h19
                have hst : ¬ stp 0 (tkK Y n A.2.1) = -1 := by rw [hk]; decide
                have hPJ := PG_jn (Y := Y) (l := 0) hPGm hPA hAL hst
                have hCN : chn Y n 0 (lev Y n g0 sub 4) (k + 1) A = chn Y n 0 (lev Y n g0 sub 4) k (pJn (stp 0 (tkK Y n A.2.1)) A (lev Y n g0 sub 4 (tkE Y n A.2.1))) := by rw [chn, if_neg (fun e => e.elim (fun e => by rw [hAL] at e; cases e) hst)]
                have had := tk_adv (Y := Y) hPA.1 (stp_j hst).2
                refine ih (i + 1) _ (pJn (stp 0 (tkK Y n A.2.1)) A (lev Y n g0 sub 4 (tkE Y n A.2.1))) _ (by omega) (prm_val hq27 rfl rfl (fun _ e => ?_)) hPJ (fun hr => ?_) (by rw [← hch, hCN])
                · show _ = zop (stp 0 (tkK Y n A.2.1)) (A.2.2.2 (nmO M)) ((lev Y n g0 sub 4 (tkE Y n A.2.1)).2.2.2 (nmO M))
                  rw [hk, ← e, ← hwL]
                  rw [zp_o, decide_eq_false (fun g => g h32), decide_eq_true h36]; rfl
                · have h1 := hiA hAL
                  have h2 := ((hPGm _ had.2).2 hr).2.1
                  show i + 1 ≤ (lev Y n g0 sub 4 (tkE Y n A.2.1)).2.1
                  omega
        
  refine x_sub [1, 0] rfl ?_
  exact loop5 160 0 _ (lev Y n g0 sub 4 x) _ (by omega) hq1 ⟨(hPGm x hxn).1, fun hr => ⟨((hPGm x hxn).2 hr).1, ((hPGm x hxn).2 hr).2.1, PE_up ((hPGm x hxn).2 hr).2.2 (by omega)⟩⟩ (fun _ => Nat.zero_le _) (lev_S (m := 4) (by decide))

