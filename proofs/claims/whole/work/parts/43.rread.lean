set_option maxRecDepth 100000 in
theorem c_r_all (t : CT) {Y : Nat → Int32} {n q : Nat} {g : Nat} (hg : g ≤ 5) {g0 : Bool} (h0g : g0 = decide (g = 0)) {sub : Nat → Nat → PR} (hA : g0 = false → (∀ (M : MM) (x : Nat), TR Y n q M → TkR Y n x M → M 0 25 = nI (5 - (g - 1)) → M 0 26 = 0 → x ≤ n → XMet (wR t) yX12_atom cX12_atom 2 (some .int) (5 + 10 * (g - 1)) [.ref (t.1 0)] M (PRf Y n (5 - (g - 1)) (sub 0 x) M))) (hE : g0 = false → (∀ (M : MM) (x : Nat), TR Y n q M → TkR Y n x M → M 0 25 = nI (5 - (g - 1)) → M 0 26 = 0 → x ≤ n → XMet (wR t) yX12_either cX12_either 3 (some .int) (10 + 10 * (g - 1)) [.ref (t.1 0)] M (PRf Y n (5 - (g - 1)) (sub 5 x) M))) (hN : g0 = false → (∀ (M : MM) (x : Nat), TR Y n q M → TkR Y n x M → M 0 25 = nI (5 - (g - 1)) → M 0 26 = 0 → x ≤ n → XMet (wR t) yX12_not cX12_not 4 (some .int) (8 + 10 * (g - 1)) [.ref (t.1 0)] M (PRf Y n (5 - (g - 1)) (sub 3 x) M))) (hPG : g0 = false → ∀ y, y ≤ n → ∀ m, (sub m y).2.1 ≤ n) (hPGm : ∀ m y, y ≤ n → PG n (1 + 5 * g + m) y (lev Y n g0 sub m y)) : (∀ (M : MM) (x : Nat), TR Y n q M → TkR Y n x M → M 0 25 = nI (5 - g) → M 0 26 = 0 → x ≤ n → XMet (wR t) yX12_atom cX12_atom 2 (some .int) (5 + 10 * g) [.ref (t.1 0)] M (PRf Y n (5 - g) (lev Y n g0 sub 0 x) M)) ∧ (∀ (M : MM) (x : Nat), TR Y n q M → TkR Y n x M → M 0 25 = nI (5 - g) → M 0 26 = 0 → x ≤ n → XMet (wR t) yX12_not cX12_not 4 (some .int) (8 + 10 * g) [.ref (t.1 0)] M (PRf Y n (5 - g) (lev Y n g0 sub 3 x) M)) ∧ (∀ (M : MM) (x : Nat), TR Y n q M → TkR Y n x M → M 0 25 = nI (5 - g) → M 0 26 = 0 → x ≤ n → XMet (wR t) yX12_either cX12_either 3 (some .int) (10 + 10 * g) [.ref (t.1 0)] M (PRf Y n (5 - g) (lev Y n g0 sub 5 x) M)) := by
  have h1 : (∀ (M : MM) (x : Nat), TR Y n q M → TkR Y n x M → M 0 25 = nI (5 - g) → M 0 26 = 0 → x ≤ n → XMet (wR t) yX12_atom cX12_atom 2 (some .int) (5 + 10 * g) [.ref (t.1 0)] M (PRf Y n (5 - g) (lev Y n g0 sub 0 x) M)) := fun M x hR hT h25 h0 hxn => c_X12_atom t hg h0g hA hE hPG M x hR hT h25 h0 hxn
  have h2 : (∀ (M : MM) (x : Nat), TR Y n q M → TkR Y n x M → M 0 25 = nI (5 - g) → M 0 26 = 0 → x ≤ n → XMet (wR t) yX12_term cX12_term 2 (some .int) (6 + 10 * g) [.ref (t.1 0)] M (PRf Y n (5 - g) (lev Y n g0 sub (0 + 1) x) M)) := fun M x hR hT h25 h0 hxn => c_X12_term t hg h1 (hPGm 0) M x hR hT h25 h0 hxn
  have h3 : (∀ (M : MM) (x : Nat), TR Y n q M → TkR Y n x M → M 0 25 = nI (5 - g) → M 0 26 = 0 → x ≤ n → XMet (wR t) yX12_added cX12_added 4 (some .int) (7 + 10 * g) [.ref (t.1 0)] M (PRf Y n (5 - g) (lev Y n g0 sub (1 + 1) x) M)) := fun M x hR hT h25 h0 hxn => c_X12_added t hg h2 (hPGm 1) M x hR hT h25 h0 hxn
  have h4 : (∀ (M : MM) (x : Nat), TR Y n q M → TkR Y n x M → M 0 25 = nI (5 - g) → M 0 26 = 0 → x ≤ n → XMet (wR t) yX12_not cX12_not 4 (some .int) (8 + 10 * g) [.ref (t.1 0)] M (PRf Y n (5 - g) (lev Y n g0 sub (2 + 1) x) M)) := fun M x hR hT h25 h0 hxn => c_X12_not t hg h0g hN h3 (hPGm 2) M x hR hT h25 h0 hxn
  have h5 : (∀ (M : MM) (x : Nat), TR Y n q M → TkR Y n x M → M 0 25 = nI (5 - g) → M 0 26 = 0 → x ≤ n → XMet (wR t) yX12_both cX12_both 3 (some .int) (9 + 10 * g) [.ref (t.1 0)] M (PRf Y n (5 - g) (lev Y n g0 sub (3 + 1) x) M)) := fun M x hR hT h25 h0 hxn => c_X12_both t hg h4 (hPGm 3) M x hR hT h25 h0 hxn
  have h6 : (∀ (M : MM) (x : Nat), TR Y n q M → TkR Y n x M → M 0 25 = nI (5 - g) → M 0 26 = 0 → x ≤ n → XMet (wR t) yX12_either cX12_either 3 (some .int) (10 + 10 * g) [.ref (t.1 0)] M (PRf Y n (5 - g) (lev Y n g0 sub (4 + 1) x) M)) := fun M x hR hT h25 h0 hxn => c_X12_either t hg h5 (hPGm 4) M x hR hT h25 h0 hxn
  exact ⟨h1, h4, h6⟩
theorem c_RLv (t : CT) {Y : Nat → Int32} {n q : Nat} : ∀ g, g ≤ 5 → (∀ (M : MM) (x : Nat), TR Y n q M → TkR Y n x M → M 0 25 = nI (5 - g) → M 0 26 = 0 → x ≤ n → XMet (wR t) yX12_atom cX12_atom 2 (some .int) (5 + 10 * g) [.ref (t.1 0)] M (PRf Y n (5 - g) (pLv Y n g 0 x) M)) ∧ (∀ (M : MM) (x : Nat), TR Y n q M → TkR Y n x M → M 0 25 = nI (5 - g) → M 0 26 = 0 → x ≤ n → XMet (wR t) yX12_not cX12_not 4 (some .int) (8 + 10 * g) [.ref (t.1 0)] M (PRf Y n (5 - g) (pLv Y n g 3 x) M)) ∧ (∀ (M : MM) (x : Nat), TR Y n q M → TkR Y n x M → M 0 25 = nI (5 - g) → M 0 26 = 0 → x ≤ n → XMet (wR t) yX12_either cX12_either 3 (some .int) (10 + 10 * g) [.ref (t.1 0)] M (PRf Y n (5 - g) (pLv Y n g 5 x) M)) := by
  intro g
  induction g with
  | zero =>
    intro hg
    exact c_r_all t hg (g0 := true) rfl (sub := fun _ _ => pzF 0) (fun h => by cases h) (fun h => by cases h) (fun h => by cases h) (fun h => by cases h) (fun m y hy => PG_Lv 0 m y hy)
  | succ g ih =>
    intro hg
    obtain ⟨i1, i2, i3⟩ := ih (by omega)
    exact c_r_all t hg (g0 := false) rfl (sub := pLv Y n g) (fun _ => i1) (fun _ => i3) (fun _ => i2) (fun _ y hy m => (PG_Lv g m y hy).1) (fun m y hy => PG_Lv (g + 1) m y hy)
set_option maxRecDepth 100000 in
set_option maxHeartbeats 800000 in
theorem c_X12_part (t : CT) {Y : Nat → Int32} {n q : Nat} {p : Nat} (hp : p < 3) (M : MM) (x : Nat) (hR : TR Y n q M) (hT : TkR Y n x M) (h25 : M 0 25 = nI (5 - 5)) (h0 : M 0 26 = 0) (hxn : x ≤ n) : XMet (wR t) yX12_part cX12_part 3 (some .int) 61 [.ref (t.1 0), .int (b2i (decide (tkK Y n x = nI (4 + p))))] M (PRf Y n (5 - 5) (pPt Y n p x) M) := by
  refine x_met RX12 (by decide) rfl (Nat.le_of_ble_eq_true rfl) (fun κ C X E => ?_)
  refine x_L (L' := [(0, .ref (t.1 0)), (1, .int (b2i (decide (tkK Y n x = nI (4 + p)))))]) rfl ?_
  have h160 := hR.1
  have hq6 := hR.2.1
  have hkey := rt_keyR (Y := Y) (n := n) (x := x) (j := p) (by omega)
  refine x_iload_n (pc := 0) C 1 dX12_part_0 rfl ?_
  refine x_ifb_ne (pc := 1) C 8 dX12_part_1 (by decide) (fun h1 => ?_) (fun h1 => ?_)
  · refine x_aload_n (pc := 8) C 0 dX12_part_8 rfl ?_
    refine g_M_bad (pc := 9) C E q15_11 dX12_part_9 ?_
    refine x_eq (show M 0 26 = 0 from h0) ?_
    refine x_if_ne_f (pc := 12) C 19 dX12_part_12 (by decide) (by decide) ?_
    refine x_aload_n (pc := 15) C 0 dX12_part_15 rfl ?_
    have hTn16 : TkR Y n x (M) := hT
    have hRn16 : TR Y n q (M) := hR
    have hfn16 : Sp M (M) := Sp.rf
    have h0n16 : (M) 0 26 = 0 := (by exact h0)
    have hxn16 := tkE_le (Y := Y) hxn
    refine x_callV (pc := 16) C E [] [] (c_X12_next t (M := M) hRn16 (x := tkE Y n x) (hTn16.2.2.1 (fun e => by rw [hkey (of_decide_eq_true h1)] at e; exact absurd e (by decide))) hxn16) m_X12_next q15_13 xo_M rfl (by first | decide | omega) (Nat.le_of_ble_eq_true rfl) dX12_part_16 rfl (fun r M16 hc16 => ?_)
    obtain ⟨rfl, hT16, hs16⟩ := hc16
    show XV κ (xP (wR t) M16) 19 _ []
    refine x_aload_n (pc := 19) C 0 dX12_part_19 rfl ?_
    refine g_M_bad (pc := 20) C E q15_11 dX12_part_20 ?_
    refine x_eq (show M16 0 26 = 0 from ((hs16 _ _ (by omega)).trans h0n16)) ?_
    refine x_if_eq_t (pc := 23) C 30 dX12_part_23 (by decide) (by decide) ?_
    refine x_aload_n (pc := 30) C 0 dX12_part_30 rfl ?_
    refine x_callV (pc := 31) C E [] [] ((c_RLv t 5 (by decide)).2.2 _ (tkE Y n x) (tr_sp hRn16 hs16.sp) hT16 ((hs16 _ _ (by omega)).trans h25) ((hs16 _ _ (by omega)).trans h0n16) hxn16) m_X12_either q16_21 xo_M rfl (by omega) (Nat.le_of_ble_eq_true rfl) dX12_part_31 rfl (fun r M31 hc31 => ?_)
    obtain ⟨w31, rfl, hp31⟩ := hc31
    have hq31 := prm_pre (hfn16.tr hs16.sp) hp31
    show XV κ (xP (wR t) M31) 34 _ [.int w31]
    cases hAa : ((pLv Y n 5 5 (tkE Y n x))).1 with
    | false =>
      obtain ⟨hba, hca⟩ := hq31.2.2 hAa
      refine x_istore_n (pc := 34) (L' := [(2, .int w31), (0, .ref (t.1 0)), (1, .int (b2i (decide (tkK Y n x = nI (4 + p)))))]) C dX12_part_34 (by decide) rfl ?_
      refine x_aload_n (pc := 35) C 1 dX12_part_35 rfl ?_
      refine x_bipush (pc := 36) (v := (nI 59)) C dX12_part_36 (by decide) ?_
      refine x_callV (pc := 38) C E [.int (nI 59)] [] (c_X12_isSign_b t (M := M31) hba _) m_X12_isSign q17_9 xo_M rfl (by first | decide | omega) (Nat.le_of_ble_eq_true rfl) dX12_part_38 rfl (k_I ?_)
      refine x_eq (show b2i false = 0 from rfl) ?_
      refine x_if_ne_f (pc := 41) C 48 dX12_part_41 (by decide) (by decide) ?_
      refine x_aload_n (pc := 44) C 1 dX12_part_44 rfl ?_
      refine x_callV (pc := 45) C E [] [] (c_X12_fail_b t (M := M31) hba) m_X12_fail q16_16 xo_M rfl (by first | decide | omega) (Nat.le_of_ble_eq_true rfl) dX12_part_45 rfl (k_U ?_)
      refine x_aload_n (pc := 48) C 1 dX12_part_48 rfl ?_
      refine g_M_bad (pc := 49) C E q15_11 dX12_part_49 ?_
      refine x_eq (show M31 0 26 = 1 from hba) ?_
      refine x_if_ne_t (pc := 52) C 59 dX12_part_52 (by decide) (by decide) ?_
      refine x_iload_n (pc := 59) C 0 dX12_part_59 rfl ?_
      exact x_iret (pc := 60) C X dX12_part_60 (by rw [pPt_y (of_decide_eq_true h1)]; exact ⟨_, rfl, prm_val hq31 (R' := pCl Y n 59 (pLv Y n 5 5 (tkE Y n x))) (by unfold pCl; rw [if_pos hAa, hAa]; rfl) (by unfold pCl; rw [if_pos hAa]; rfl) (fun e => by rw [hAa] at e; cases e)⟩)
    | true =>
      obtain ⟨hwa, hTa, h25a, h0a⟩ := hq31.2.1 hAa
      have hxna : ((pLv Y n 5 5 (tkE Y n x))).2.1 ≤ n := (PG_Lv 5 5 _ (tkE_le (Y := Y) hxn)).1
      refine x_istore_n (pc := 34) (L' := [(2, .int w31), (0, .ref (t.1 0)), (1, .int (b2i (decide (tkK Y n x = nI (4 + p)))))]) C dX12_part_34 (by decide) rfl ?_
      refine x_aload_n (pc := 35) C 1 dX12_part_35 rfl ?_
      refine x_bipush (pc := 36) (v := (nI 59)) C dX12_part_36 (by decide) ?_
      refine x_callV (pc := 38) C E [.int (nI 59)] [] (c_X12_isSign t (M := M31) hTa h0a (s := 59) (by decide)) m_X12_isSign q17_9 xo_M rfl (by first | decide | omega) (Nat.le_of_ble_eq_true rfl) dX12_part_38 rfl (k_I ?_)
      refine x_ifb_ne (pc := 41) C 48 dX12_part_41 (by decide) (fun h41 => ?_) (fun h41 => ?_)
      · refine x_aload_n (pc := 48) C 1 dX12_part_48 rfl ?_
        refine g_M_bad (pc := 49) C E q15_11 dX12_part_49 ?_
        refine x_eq (show M31 0 26 = 0 from h0a) ?_
        refine x_if_ne_f (pc := 52) C 59 dX12_part_52 (by decide) (by decide) ?_
        refine x_aload_n (pc := 55) C 1 dX12_part_55 rfl ?_
        have hTn56 : TkR Y n ((pLv Y n 5 5 (tkE Y n x)).2.1) (M31) := hTa
        have hRn56 : TR Y n q (M31) := (tr_sp hR hq31.1)
        have hfn56 : Sp M (M31) := hq31.1
        have h0n56 : (M31) 0 26 = 0 := (by exact h0a)
        have hxn56 := tkE_le (Y := Y) hxna
        refine x_callV (pc := 56) C E [] [] (c_X12_next t (M := M31) hRn56 (x := tkE Y n ((pLv Y n 5 5 (tkE Y n x)).2.1)) (hTn56.2.2.1 (fun e => by rw [((rt_sign (by decide)).mp (of_decide_eq_true h41)).1] at e; exact absurd e (by decide))) hxn56) m_X12_next q15_13 xo_M rfl (by first | decide | omega) (Nat.le_of_ble_eq_true rfl) dX12_part_56 rfl (fun r M56 hc56 => ?_)
        obtain ⟨rfl, hT56, hs56⟩ := hc56
        show XV κ (xP (wR t) M56) 59 _ []
        refine x_iload_n (pc := 59) C 0 dX12_part_59 rfl ?_
        exact x_iret (pc := 60) C X dX12_part_60 (by rw [pPt_y (of_decide_eq_true h1)]; rw [show pCl Y n 59 (pLv Y n 5 5 (tkE Y n x)) = (true, tkE Y n (pLv Y n 5 5 (tkE Y n x)).2.1, (pLv Y n 5 5 (tkE Y n x)).2.2.1, (pLv Y n 5 5 (tkE Y n x)).2.2.2) from by unfold pCl; rw [if_neg (by rw [hAa]; decide), if_pos (show tkK Y n (pLv Y n 5 5 (tkE Y n x)).2.1 = 59 from of_decide_eq_true h41)]]; exact prf_ok (hfn56.tr hs56.sp) rfl hwa hT56 ((hs56 _ _ (by omega)).trans h25a) ((hs56 _ _ (by omega)).trans h0n56))
      · refine x_aload_n (pc := 44) C 1 dX12_part_44 rfl ?_
        refine x_callV (pc := 45) C E [] [] (c_X12_fail t (M := M31) (p := tkP Y n ((pLv Y n 5 5 (tkE Y n x)).2.1)) hTa.1 h0a) m_X12_fail q16_16 xo_M rfl (by first | decide | omega) (Nat.le_of_ble_eq_true rfl) dX12_part_45 rfl (k_U ?_)
        refine x_aload_n (pc := 48) C 1 dX12_part_48 rfl ?_
        refine g_M_bad (pc := 49) C E q15_11 dX12_part_49 ?_
        refine x_eq (show (mu (mu M31 0 26 1) 0 27 (nI (tkP Y n ((pLv Y n 5 5 (tkE Y n x)).2.1)))) 0 26 = 1 from ((mu_k _ _ _ _ (by decide)).trans (mu_s _ _ _ _))) ?_
        refine x_if_ne_t (pc := 52) C 59 dX12_part_52 (by decide) (by decide) ?_
        refine x_iload_n (pc := 59) C 0 dX12_part_59 rfl ?_
        exact x_iret (pc := 60) C X dX12_part_60 (by rw [pPt_y (of_decide_eq_true h1)]; rw [show pCl Y n 59 (pLv Y n 5 5 (tkE Y n x)) = pzF (pLv Y n 5 5 (tkE Y n x)).2.1 from by unfold pCl; rw [if_neg (by rw [hAa]; decide), if_neg (show ¬ tkK Y n (pLv Y n 5 5 (tkE Y n x)).2.1 = 59 from of_decide_eq_false h41)]]; exact prf_bad (hq31.1.tr (fun a b hab => (by rw [mu_at, if_neg (by omega), mu_at, if_neg (by omega)]))) rfl ((mu_k _ _ _ _ (by decide)).trans (mu_s _ _ _ _)) (mu_s _ _ _ _))
    
  · refine x_aload_n (pc := 4) C 0 dX12_part_4 rfl ?_
    refine x_callV (pc := 5) C E [] [] (c_X12_fail t (M := M) (p := tkP Y n x) hT.1 h0) m_X12_fail q16_16 xo_M rfl (by first | decide | omega) (Nat.le_of_ble_eq_true rfl) dX12_part_5 rfl (k_U ?_)
    refine x_aload_n (pc := 8) C 0 dX12_part_8 rfl ?_
    refine g_M_bad (pc := 9) C E q15_11 dX12_part_9 ?_
    refine x_eq (show (mu (mu M 0 26 1) 0 27 (nI (tkP Y n x))) 0 26 = 1 from ((mu_k _ _ _ _ (by decide)).trans (mu_s _ _ _ _))) ?_
    refine x_if_ne_t (pc := 12) C 19 dX12_part_12 (by decide) (by decide) ?_
    refine x_aload_n (pc := 19) C 0 dX12_part_19 rfl ?_
    refine g_M_bad (pc := 20) C E q15_11 dX12_part_20 ?_
    refine x_eq (show (mu (mu M 0 26 1) 0 27 (nI (tkP Y n x))) 0 26 = 1 from ((mu_k _ _ _ _ (by decide)).trans (mu_s _ _ _ _))) ?_
    refine x_if_eq_f (pc := 23) C 30 dX12_part_23 (by decide) (by decide) ?_
    refine x_iconst (pc := 26) (v := (nI 0)) C dX12_part_26 (by decide) ?_
    refine x_goto (pc := 27) C 34 dX12_part_27 (by decide) ?_
    refine x_istore_n (pc := 34) (L' := [(2, .int (nI 0)), (0, .ref (t.1 0)), (1, .int (b2i (decide (tkK Y n x = nI (4 + p)))))]) C dX12_part_34 (by decide) rfl ?_
    refine x_aload_n (pc := 35) C 1 dX12_part_35 rfl ?_
    refine x_bipush (pc := 36) (v := (nI 59)) C dX12_part_36 (by decide) ?_
    refine x_callV (pc := 38) C E [.int (nI 59)] [] (c_X12_isSign_b t (M := mu (mu M 0 26 1) 0 27 (nI (tkP Y n x))) ((mu_k _ _ _ _ (by decide)).trans (mu_s _ _ _ _)) _) m_X12_isSign q17_9 xo_M rfl (by first | decide | omega) (Nat.le_of_ble_eq_true rfl) dX12_part_38 rfl (k_I ?_)
    refine x_eq (show b2i false = 0 from rfl) ?_
    refine x_if_ne_f (pc := 41) C 48 dX12_part_41 (by decide) (by decide) ?_
    refine x_aload_n (pc := 44) C 1 dX12_part_44 rfl ?_
    refine x_callV (pc := 45) C E [] [] (c_X12_fail_b t (M := mu (mu M 0 26 1) 0 27 (nI (tkP Y n x))) ((mu_k _ _ _ _ (by decide)).trans (mu_s _ _ _ _))) m_X12_fail q16_16 xo_M rfl (by first | decide | omega) (Nat.le_of_ble_eq_true rfl) dX12_part_45 rfl (k_U ?_)
    refine x_aload_n (pc := 48) C 1 dX12_part_48 rfl ?_
    refine g_M_bad (pc := 49) C E q15_11 dX12_part_49 ?_
    refine x_eq (show (mu (mu M 0 26 1) 0 27 (nI (tkP Y n x))) 0 26 = 1 from ((mu_k _ _ _ _ (by decide)).trans (mu_s _ _ _ _))) ?_
    refine x_if_ne_t (pc := 52) C 59 dX12_part_52 (by decide) (by decide) ?_
    refine x_iload_n (pc := 59) C 0 dX12_part_59 rfl ?_
    exact x_iret (pc := 60) C X dX12_part_60 (by rw [pPt_n (of_decide_eq_false h1)]; exact prf_bad (fun a b hab => (by rw [mu_at, if_neg (by omega), mu_at, if_neg (by omega)])) rfl ((mu_k _ _ _ _ (by decide)).trans (mu_s _ _ _ _)) (mu_s _ _ _ _))

theorem rt_0 {Y : Nat → Int32} {n x : Nat} : tkK Y n x = 0 ↔ rtk Y n x = nI 0 := by
  unfold tkK rtk
  split
  · exact ⟨fun _ => rfl, fun _ => rfl⟩
  · split
    · exact ⟨fun e => absurd e (wkK_ne (wdx_le _ _ _)).2.1, fun e => absurd e (by decide)⟩
    · split
      · split
        · exact ⟨fun e => absurd e (by decide), fun e => absurd e (by decide)⟩
        · exact ⟨fun e => absurd e (by decide), fun e => absurd e (by decide)⟩
      · split
        · rename_i hs
          exact ⟨fun e => absurd e (cSgn_ne hs).2.2, fun e => absurd e (by decide)⟩
        · exact ⟨fun e => absurd e (by decide), fun e => absurd e (by decide)⟩
/-- what read leaves -/
def RdF (Y : Nat → Int32) (n wh : Nat) (M : MM) : XF := fun r B => ∃ w : Int32, r = some (.int w) ∧ Sc M B ∧ (pRd Y n 0 3 = -1 → B 0 26 = 0 ∧ w = pTx Y n wh (nmO M)) ∧ (¬ pRd Y n 0 3 = -1 → B 0 26 = 1 ∧ B 0 27 = pRd Y n 0 3)
theorem rdf_bad {Y : Nat → Int32} {n wh x : Nat} {M B : MM} {w : Int32} (hn : n ≤ 160) (hx : x ≤ n) (hf : Sc M B) (h1 : pRd Y n 0 3 = nI (tkP Y n x)) (h2 : B 0 26 = 1) (h3 : B 0 27 = nI (tkP Y n x)) : RdF Y n wh M (some (.int w)) B :=
  ⟨w, rfl, hf, fun e => absurd (h1.symm.trans e) (nI_nm1 (by have := (tkP_le (Y := Y) hx).2; omega)), fun _ => ⟨h2, h3.trans h1.symm⟩⟩
theorem rd_S {Y : Nat → Int32} {n p k : Nat} (h : (pPt Y n p (pX Y n p)).1 = true) : pRd Y n p (k + 1) = pRd Y n (p + 1) k := by rw [pRd, if_pos h]
theorem rd_F {Y : Nat → Int32} {n p k : Nat} (h : (pPt Y n p (pX Y n p)).1 = false) : pRd Y n p (k + 1) = nI (tkP Y n (pX Y n (p + 1))) := by rw [pRd, if_neg (by rw [h]; decide)]
theorem rd_E {Y : Nat → Int32} {n p : Nat} (h : tkK Y n (pX Y n p) = 0) : pRd Y n p 0 = -1 := by rw [pRd, if_pos h]
theorem rd_B {Y : Nat → Int32} {n p : Nat} (h : ¬ tkK Y n (pX Y n p) = 0) : pRd Y n p 0 = nI (tkP Y n (pX Y n p)) := by rw [pRd, if_neg h]
set_option maxRecDepth 100000 in
set_option maxHeartbeats 800000 in
theorem c_X12_read0 (t : CT) {M : MM} {Y : Nat → Int32} {n q : Nat} (hn : n ≤ 160) (hq6 : q < 6) (hs : M 2 q = nI n) (hb : ∀ k, k < n → M 1 (160 * q + k) = Y k) (hbY : ∀ k, k < n → 0 ≤ (Y k).toInt) : XMet (wR t) yX12_read cX12_read 6 (some .int) 62 [.ref (t.1 0), .int (nI q), .int (nI 0)] M (RdF Y n 0 M) := by
  refine x_met RX12 (by decide) rfl (Nat.le_of_ble_eq_true rfl) (fun κ C X E => ?_)
  refine x_L (L' := [(0, .ref (t.1 0)), (1, .int (nI q)), (2, .int (nI 0))]) rfl ?_
  refine x_aload_n (pc := 0) C 0 dX12_read_0 rfl ?_
  refine x_sipush (pc := 1) (v := (nI 160)) C dX12_read_1 (by decide) ?_
  refine x_iload_n (pc := 4) C 1 dX12_read_4 rfl ?_
  refine x_imul (pc := 5) C dX12_read_5 ?_
  refine x_eq (show (nI 160) * (nI q) = nI (160 * q) from pk_mul _ _) ?_
  refine p_M_from (pc := 6) C E q15_7 dX12_read_6 ?_
  refine x_aload_n (pc := 9) C 0 dX12_read_9 rfl ?_
  refine x_aload_n (pc := 10) C 0 dX12_read_10 rfl ?_
  refine g_M_textSize (pc := 11) C E q11_13 dX12_read_11 ?_
  refine x_iload_n (pc := 14) C 1 dX12_read_14 rfl ?_
  refine l_RtextSize (pc := 15) C E (by omega) dX12_read_15 ?_
  refine x_eq (show (mu M 0 19 (nI (160 * q))) 2 q = nI n from (by rw [mu_n _ _ _ _ (by decide)]; exact hs)) ?_
  refine p_M_size (pc := 16) C E q15_8 dX12_read_16 ?_
  refine x_aload_n (pc := 19) C 0 dX12_read_19 rfl ?_
  refine x_iconst (pc := 20) (v := (nI 0)) C dX12_read_20 (by decide) ?_
  refine p_M_here (pc := 21) C E q15_9 dX12_read_21 ?_
  refine x_aload_n (pc := 24) C 0 dX12_read_24 rfl ?_
  refine x_iconst (pc := 25) (v := (nI 0)) C dX12_read_25 (by decide) ?_
  refine p_M_open (pc := 26) C E q15_10 dX12_read_26 ?_
  refine x_aload_n (pc := 29) C 0 dX12_read_29 rfl ?_
  refine x_iconst (pc := 30) (v := 0) C dX12_read_30 rfl ?_
  refine p_M_bad (pc := 31) C E q15_11 ⟨rfl, rfl⟩ dX12_read_31 ?_
  have hRr : TR Y n q (mu (mu (mu (mu (mu M 0 19 (nI (160 * q))) 0 20 (nI n)) 0 21 (nI 0)) 0 25 (nI 0)) 0 26 0) := ⟨hn, hq6, ((mu_k _ _ _ _ (by decide)).trans ((mu_k _ _ _ _ (by decide)).trans ((mu_k _ _ _ _ (by decide)).trans ((mu_k _ _ _ _ (by decide)).trans (mu_s _ _ _ _))))), ((mu_k _ _ _ _ (by decide)).trans ((mu_k _ _ _ _ (by decide)).trans ((mu_k _ _ _ _ (by decide)).trans (mu_s _ _ _ _)))), fun k hk => ⟨by rw [mu_n _ _ _ _ (by decide), mu_n _ _ _ _ (by decide), mu_n _ _ _ _ (by decide), mu_n _ _ _ _ (by decide), mu_n _ _ _ _ (by decide)]; exact hb k hk, hbY k hk⟩⟩
  have hfr : Sc M (mu (mu (mu (mu (mu M 0 19 (nI (160 * q))) 0 20 (nI n)) 0 21 (nI 0)) 0 25 (nI 0)) 0 26 0) := (fun a b hab => by rw [mu_at, if_neg (by omega), mu_at, if_neg (by omega), mu_at, if_neg (by omega), mu_at, if_neg (by omega), mu_at, if_neg (by omega)])
  have hnm : nmO (mu (mu (mu (mu (mu M 0 19 (nI (160 * q))) 0 20 (nI n)) 0 21 (nI 0)) 0 25 (nI 0)) 0 26 0) = nmO M := by unfold nmO; simp [mu_at]
  refine x_aload_n (pc := 34) C 0 dX12_read_34 rfl ?_
  refine x_callV (pc := 35) C E [] [] (c_X12_next t (M := mu (mu (mu (mu (mu M 0 19 (nI (160 * q))) 0 20 (nI n)) 0 21 (nI 0)) 0 25 (nI 0)) 0 26 0) hRr (x := 0) ((mu_k _ _ _ _ (by decide)).trans ((mu_k _ _ _ _ (by decide)).trans (mu_s _ _ _ _))) (Nat.zero_le _)) m_X12_next q15_13 xo_M rfl (by decide) (Nat.le_of_ble_eq_true rfl) dX12_read_35 rfl (fun r M35 hc35 => ?_)
  obtain ⟨rfl, hT35, hs35⟩ := hc35
  show XV κ (xP (wR t) M35) 38 _ []
  have hT0 : TkR Y n (pX Y n 0) M35 := hT35
  have h00 : M35 0 26 = 0 := (hs35 _ _ (by omega)).trans (mu_s _ _ _ _)
  have h250 : M35 0 25 = nI (5 - 5) := (hs35 _ _ (by omega)).trans ((mu_k _ _ _ _ (by decide)).trans (mu_s _ _ _ _))
  have hR0 := tr_sp hRr hs35.sp
  have hnm0 : nmO M35 = nmO M := (nmO_sp hs35.sp).trans hnm
  have hfr0 : Sc M M35 := hfr.tr (fun a b hab => hs35 a b (by omega))
  refine x_aload_n (pc := 38) C 0 dX12_read_38 rfl ?_
  refine x_aload_n (pc := 39) C 0 dX12_read_39 rfl ?_
  refine x_bipush (pc := 40) (v := (nI 116)) C dX12_read_40 (by decide) ?_
  refine x_bipush (pc := 42) (v := (nI 97)) C dX12_read_42 (by decide) ?_
  refine x_bipush (pc := 44) (v := (nI 107)) C dX12_read_44 (by decide) ?_
  refine x_bipush (pc := 46) (v := (nI 101)) C dX12_read_46 (by decide) ?_
  refine x_bipush (pc := 48) (v := (nI 115)) C dX12_read_48 (by decide) ?_
  refine x_iconst (pc := 50) (v := (nI 0)) C dX12_read_50 (by decide) ?_
  refine x_iconst (pc := 51) (v := (nI 0)) C dX12_read_51 (by decide) ?_
  refine x_iconst (pc := 52) (v := (nI 0)) C dX12_read_52 (by decide) ?_
  refine x_callV (pc := 53) C E [.int (nI 116), .int (nI 97), .int (nI 107), .int (nI 101), .int (nI 115), .int (nI 0), .int (nI 0), .int (nI 0)] [.ref (t.1 0)] (c_X12_isWord t (M := M35) hR0 hT0 h00 (Nat.zero_le _) (j := 0) (by decide)) m_X12_isWord q16_4 xo_M rfl (by first | decide | omega) (Nat.le_of_ble_eq_true rfl) dX12_read_53 rfl (k_I ?_)
  refine x_eq (show _ = b2i (decide (tkK Y n (pX Y n 0) = nI 4)) from (by rw [rt_key (by decide)])) ?_
  refine x_callV (pc := 56) C E [.int (b2i (decide (tkK Y n (pX Y n 0) = nI 4)))] [] (c_X12_part t (p := 0) (by decide) _ (pX Y n 0) hR0 hT0 h250 h00 (pX_le 0 (by decide))) m_X12_part q16_12 xo_M rfl (by decide) (Nat.le_of_ble_eq_true rfl) dX12_read_56 rfl (fun r M56 hc56 => ?_)
  obtain ⟨w56, rfl, hp56⟩ := hc56
  have hq56 := prm_pre Sp.rf hp56
  show XV κ (xP (wR t) M56) 59 _ [.int w56]
  cases hAa : (pPt Y n 0 (pX Y n 0)).1 with
  | false =>
    obtain ⟨hba, hca⟩ := hq56.2.2 hAa
    refine x_istore_n (pc := 59) (L' := [(3, .int w56), (0, .ref (t.1 0)), (1, .int (nI q)), (2, .int (nI 0))]) C dX12_read_59 (by decide) rfl ?_
    refine x_aload_n (pc := 60) C 1 dX12_read_60 rfl ?_
    refine g_M_bad (pc := 61) C E q15_11 dX12_read_61 ?_
    refine x_eq (show M56 0 26 = 1 from hba) ?_
    refine x_if_eq_f (pc := 64) C 71 dX12_read_64 (by decide) (by decide) ?_
    refine x_iconst (pc := 67) (v := (nI 0)) C dX12_read_67 (by decide) ?_
    refine x_goto (pc := 68) C 91 dX12_read_68 (by decide) ?_
    refine x_istore (pc := 91) (L' := [(4, .int (nI 0)), (3, .int w56), (0, .ref (t.1 0)), (1, .int (nI q)), (2, .int (nI 0))]) C dX12_read_91 (by decide) rfl ?_
    refine x_aload_n (pc := 93) C 2 dX12_read_93 rfl ?_
    refine g_M_bad (pc := 94) C E q15_11 dX12_read_94 ?_
    refine x_eq (show M56 0 26 = 1 from hba) ?_
    refine x_if_eq_f (pc := 97) C 104 dX12_read_97 (by decide) (by decide) ?_
    refine x_iconst (pc := 100) (v := (nI 0)) C dX12_read_100 (by decide) ?_
    refine x_goto (pc := 101) C 125 dX12_read_101 (by decide) ?_
    refine x_istore (pc := 125) (L' := [(5, .int (nI 0)), (4, .int (nI 0)), (3, .int w56), (0, .ref (t.1 0)), (1, .int (nI q)), (2, .int (nI 0))]) C dX12_read_125 (by decide) rfl ?_
    refine x_aload_n (pc := 127) C 3 dX12_read_127 rfl ?_
    refine g_M_bad (pc := 128) C E q15_11 dX12_read_128 ?_
    refine x_eq (show M56 0 26 = 1 from hba) ?_
    refine x_if_ne_t (pc := 131) C 145 dX12_read_131 (by decide) (by decide) ?_
    refine x_iload_n (pc := 145) C 5 dX12_read_145 rfl ?_
    refine x_if_ne_f (pc := 146) C 153 dX12_read_146 (by decide) (by decide) ?_
    refine x_iload_n (pc := 149) C 2 dX12_read_149 rfl ?_
    refine x_goto (pc := 150) C 165 dX12_read_150 (by decide) ?_
    exact x_iret (pc := 165) C X dX12_read_165 (rdf_bad hn (pX_le 1 (by decide)) (hfr0.tr (fun a b hab => hq56.1 a b (by omega))) (by rw [rd_F hAa]) hba hca)
  | true =>
    obtain ⟨hwa, hTa, h25a, h0a⟩ := hq56.2.1 hAa
    refine x_istore_n (pc := 59) (L' := [(3, .int w56), (0, .ref (t.1 0)), (1, .int (nI q)), (2, .int (nI 0))]) C dX12_read_59 (by decide) rfl ?_
    refine x_aload_n (pc := 60) C 1 dX12_read_60 rfl ?_
    refine g_M_bad (pc := 61) C E q15_11 dX12_read_61 ?_
    refine x_eq (show M56 0 26 = 0 from h0a) ?_
    refine x_if_eq_t (pc := 64) C 71 dX12_read_64 (by decide) (by decide) ?_
    refine x_aload_n (pc := 71) C 1 dX12_read_71 rfl ?_
    refine x_aload_n (pc := 72) C 1 dX12_read_72 rfl ?_
    refine x_bipush (pc := 73) (v := (nI 103)) C dX12_read_73 (by decide) ?_
    refine x_bipush (pc := 75) (v := (nI 111)) C dX12_read_75 (by decide) ?_
    refine x_bipush (pc := 77) (v := (nI 101)) C dX12_read_77 (by decide) ?_
    refine x_bipush (pc := 79) (v := (nI 115)) C dX12_read_79 (by decide) ?_
    refine x_iconst (pc := 81) (v := (nI 0)) C dX12_read_81 (by decide) ?_
    refine x_iconst (pc := 82) (v := (nI 0)) C dX12_read_82 (by decide) ?_
    refine x_iconst (pc := 83) (v := (nI 0)) C dX12_read_83 (by decide) ?_
    refine x_iconst (pc := 84) (v := (nI 0)) C dX12_read_84 (by decide) ?_
    refine x_callV (pc := 85) C E [.int (nI 103), .int (nI 111), .int (nI 101), .int (nI 115), .int (nI 0), .int (nI 0), .int (nI 0), .int (nI 0)] [.ref (t.1 0)] (c_X12_isWord t (M := M56) (tr_sp hR0 hq56.1) (show TkR Y n (pX Y n 1) M56 from hTa) h0a (pX_le 1 (by decide)) (j := 1) (by decide)) m_X12_isWord q16_4 xo_M rfl (by first | decide | omega) (Nat.le_of_ble_eq_true rfl) dX12_read_85 rfl (k_I ?_)
    refine x_eq (show _ = b2i (decide (tkK Y n (pX Y n 1) = nI 5)) from (by rw [rt_key (by decide)])) ?_
    refine x_callV (pc := 88) C E [.int (b2i (decide (tkK Y n (pX Y n 1) = nI 5)))] [] (c_X12_part t (p := 1) (by decide) _ (pX Y n 1) (tr_sp hR0 hq56.1) (show TkR Y n (pX Y n 1) M56 from hTa) h25a h0a (pX_le 1 (by decide))) m_X12_part q16_12 xo_M rfl (by decide) (Nat.le_of_ble_eq_true rfl) dX12_read_88 rfl (fun r M88 hc88 => ?_)
    obtain ⟨w88, rfl, hp88⟩ := hc88
    have hq88 := prm_pre hq56.1 hp88
    show XV κ (xP (wR t) M88) 91 _ [.int w88]
    cases hAb : (pPt Y n 1 (pX Y n 1)).1 with
    | false =>
      obtain ⟨hbb, hcb⟩ := hq88.2.2 hAb
      refine x_istore (pc := 91) (L' := [(4, .int w88), (3, .int w56), (0, .ref (t.1 0)), (1, .int (nI q)), (2, .int (nI 0))]) C dX12_read_91 (by decide) rfl ?_
      refine x_aload_n (pc := 93) C 2 dX12_read_93 rfl ?_
      refine g_M_bad (pc := 94) C E q15_11 dX12_read_94 ?_
      refine x_eq (show M88 0 26 = 1 from hbb) ?_
      refine x_if_eq_f (pc := 97) C 104 dX12_read_97 (by decide) (by decide) ?_
      refine x_iconst (pc := 100) (v := (nI 0)) C dX12_read_100 (by decide) ?_
      refine x_goto (pc := 101) C 125 dX12_read_101 (by decide) ?_
      refine x_istore (pc := 125) (L' := [(5, .int (nI 0)), (4, .int w88), (3, .int w56), (0, .ref (t.1 0)), (1, .int (nI q)), (2, .int (nI 0))]) C dX12_read_125 (by decide) rfl ?_
      refine x_aload_n (pc := 127) C 3 dX12_read_127 rfl ?_
      refine g_M_bad (pc := 128) C E q15_11 dX12_read_128 ?_
      refine x_eq (show M88 0 26 = 1 from hbb) ?_
      refine x_if_ne_t (pc := 131) C 145 dX12_read_131 (by decide) (by decide) ?_
      refine x_iload_n (pc := 145) C 5 dX12_read_145 rfl ?_
      refine x_if_ne_f (pc := 146) C 153 dX12_read_146 (by decide) (by decide) ?_
      refine x_iload_n (pc := 149) C 2 dX12_read_149 rfl ?_
      refine x_goto (pc := 150) C 165 dX12_read_150 (by decide) ?_
      exact x_iret (pc := 165) C X dX12_read_165 (rdf_bad hn (pX_le 2 (by decide)) (hfr0.tr (fun a b hab => hq88.1 a b (by omega))) (by rw [rd_S hAa, rd_F hAb]) hbb hcb)
    | true =>
      obtain ⟨hwb, hTb, h25b, h0b⟩ := hq88.2.1 hAb
      refine x_istore (pc := 91) (L' := [(4, .int w88), (3, .int w56), (0, .ref (t.1 0)), (1, .int (nI q)), (2, .int (nI 0))]) C dX12_read_91 (by decide) rfl ?_
      refine x_aload_n (pc := 93) C 2 dX12_read_93 rfl ?_
      refine g_M_bad (pc := 94) C E q15_11 dX12_read_94 ?_
      refine x_eq (show M88 0 26 = 0 from h0b) ?_
      refine x_if_eq_t (pc := 97) C 104 dX12_read_97 (by decide) (by decide) ?_
      refine x_aload_n (pc := 104) C 2 dX12_read_104 rfl ?_
      refine x_aload_n (pc := 105) C 2 dX12_read_105 rfl ?_
      refine x_bipush (pc := 106) (v := (nI 119)) C dX12_read_106 (by decide) ?_
      refine x_bipush (pc := 108) (v := (nI 111)) C dX12_read_108 (by decide) ?_
      refine x_bipush (pc := 110) (v := (nI 114)) C dX12_read_110 (by decide) ?_
      refine x_bipush (pc := 112) (v := (nI 116)) C dX12_read_112 (by decide) ?_
      refine x_bipush (pc := 114) (v := (nI 104)) C dX12_read_114 (by decide) ?_
      refine x_iconst (pc := 116) (v := (nI 0)) C dX12_read_116 (by decide) ?_
      refine x_iconst (pc := 117) (v := (nI 0)) C dX12_read_117 (by decide) ?_
      refine x_iconst (pc := 118) (v := (nI 0)) C dX12_read_118 (by decide) ?_
      refine x_callV (pc := 119) C E [.int (nI 119), .int (nI 111), .int (nI 114), .int (nI 116), .int (nI 104), .int (nI 0), .int (nI 0), .int (nI 0)] [.ref (t.1 0)] (c_X12_isWord t (M := M88) (tr_sp hR0 hq88.1) (show TkR Y n (pX Y n 2) M88 from hTb) h0b (pX_le 2 (by decide)) (j := 2) (by decide)) m_X12_isWord q16_4 xo_M rfl (by first | decide | omega) (Nat.le_of_ble_eq_true rfl) dX12_read_119 rfl (k_I ?_)
      refine x_eq (show _ = b2i (decide (tkK Y n (pX Y n 2) = nI 6)) from (by rw [rt_key (by decide)])) ?_
      refine x_callV (pc := 122) C E [.int (b2i (decide (tkK Y n (pX Y n 2) = nI 6)))] [] (c_X12_part t (p := 2) (by decide) _ (pX Y n 2) (tr_sp hR0 hq88.1) (show TkR Y n (pX Y n 2) M88 from hTb) h25b h0b (pX_le 2 (by decide))) m_X12_part q16_12 xo_M rfl (by decide) (Nat.le_of_ble_eq_true rfl) dX12_read_122 rfl (fun r M122 hc122 => ?_)
      obtain ⟨w122, rfl, hp122⟩ := hc122
      have hq122 := prm_pre hq88.1 hp122
      show XV κ (xP (wR t) M122) 125 _ [.int w122]
      cases hAc : (pPt Y n 2 (pX Y n 2)).1 with
      | false =>
        obtain ⟨hbc, hcc⟩ := hq122.2.2 hAc
        refine x_istore (pc := 125) (L' := [(5, .int w122), (4, .int w88), (3, .int w56), (0, .ref (t.1 0)), (1, .int (nI q)), (2, .int (nI 0))]) C dX12_read_125 (by decide) rfl ?_
        refine x_aload_n (pc := 127) C 3 dX12_read_127 rfl ?_
        refine g_M_bad (pc := 128) C E q15_11 dX12_read_128 ?_
        refine x_eq (show M122 0 26 = 1 from hbc) ?_
        refine x_if_ne_t (pc := 131) C 145 dX12_read_131 (by decide) (by decide) ?_
        refine x_iload_n (pc := 145) C 5 dX12_read_145 rfl ?_
        refine x_if_ne_f (pc := 146) C 153 dX12_read_146 (by decide) (by decide) ?_
        refine x_iload_n (pc := 149) C 2 dX12_read_149 rfl ?_
        refine x_goto (pc := 150) C 165 dX12_read_150 (by decide) ?_
        exact x_iret (pc := 165) C X dX12_read_165 (rdf_bad hn (pX_le 3 (by decide)) (hfr0.tr (fun a b hab => hq122.1 a b (by omega))) (by rw [rd_S hAa, rd_S hAb, rd_F hAc]) hbc hcc)
      | true =>
        obtain ⟨hwc, hTc, h25c, h0c⟩ := hq122.2.1 hAc
        refine x_istore (pc := 125) (L' := [(5, .int w122), (4, .int w88), (3, .int w56), (0, .ref (t.1 0)), (1, .int (nI q)), (2, .int (nI 0))]) C dX12_read_125 (by decide) rfl ?_
        refine x_aload_n (pc := 127) C 3 dX12_read_127 rfl ?_
        refine g_M_bad (pc := 128) C E q15_11 dX12_read_128 ?_
        refine x_eq (show M122 0 26 = 0 from h0c) ?_
        refine x_if_ne_f (pc := 131) C 145 dX12_read_131 (by decide) (by decide) ?_
        refine x_aload_n (pc := 134) C 3 dX12_read_134 rfl ?_
        refine g_M_token (pc := 135) C E q15_12 dX12_read_135 ?_
        refine x_eq (show M122 0 22 = rtk Y n (pX Y n 3) from hTc.2.1) ?_
        refine x_if_eq (pc := 138) C 145 dX12_read_138 (by decide) (fun h138 => ?_) (fun h138 => ?_)
        · refine x_iload_n (pc := 145) C 5 dX12_read_145 rfl ?_
          refine x_if_ne_f (pc := 146) C 153 dX12_read_146 (by decide) (by decide) ?_
          refine x_iload_n (pc := 149) C 2 dX12_read_149 rfl ?_
          refine x_goto (pc := 150) C 165 dX12_read_150 (by decide) ?_
          exact x_iret (pc := 165) C X dX12_read_165 ⟨_, rfl, hfr0.tr (fun a b hab => hq122.1 a b (by omega)), fun _ => ⟨h0c, by rw [hwa, hnm0]; rfl⟩, fun e => absurd (show pRd Y n 0 3 = -1 by rw [rd_S hAa, rd_S hAb, rd_S hAc, rd_E (rt_0.mpr h138)]) e⟩
        · refine x_aload_n (pc := 141) C 3 dX12_read_141 rfl ?_
          refine x_callV (pc := 142) C E [] [] (c_X12_fail t (M := M122) (p := tkP Y n (pX Y n 3)) (show TkR Y n (pX Y n 3) M122 from hTc).1 h0c) m_X12_fail q16_16 xo_M rfl (by first | decide | omega) (Nat.le_of_ble_eq_true rfl) dX12_read_142 rfl (k_U ?_)
          refine x_iload_n (pc := 145) C 5 dX12_read_145 rfl ?_
          refine x_if_ne_f (pc := 146) C 153 dX12_read_146 (by decide) (by decide) ?_
          refine x_iload_n (pc := 149) C 2 dX12_read_149 rfl ?_
          refine x_goto (pc := 150) C 165 dX12_read_150 (by decide) ?_
          exact x_iret (pc := 165) C X dX12_read_165 (rdf_bad hn (pX_le 3 (by decide)) (hfr0.tr (fun a b hab => by rw [mu_at, if_neg (by omega), mu_at, if_neg (by omega)]; exact hq122.1 a b (by omega))) (by rw [rd_S hAa, rd_S hAb, rd_S hAc, rd_B (fun e => h138 (rt_0.mp e))]) ((mu_k _ _ _ _ (by decide)).trans (mu_s _ _ _ _)) (mu_s _ _ _ _))
      
    
  

set_option maxRecDepth 100000 in
set_option maxHeartbeats 800000 in
theorem c_X12_read1 (t : CT) {M : MM} {Y : Nat → Int32} {n q : Nat} (hn : n ≤ 160) (hq6 : q < 6) (hs : M 2 q = nI n) (hb : ∀ k, k < n → M 1 (160 * q + k) = Y k) (hbY : ∀ k, k < n → 0 ≤ (Y k).toInt) : XMet (wR t) yX12_read cX12_read 6 (some .int) 62 [.ref (t.1 0), .int (nI q), .int (nI 1)] M (RdF Y n 1 M) := by
  refine x_met RX12 (by decide) rfl (Nat.le_of_ble_eq_true rfl) (fun κ C X E => ?_)
  refine x_L (L' := [(0, .ref (t.1 0)), (1, .int (nI q)), (2, .int (nI 1))]) rfl ?_
  refine x_aload_n (pc := 0) C 0 dX12_read_0 rfl ?_
  refine x_sipush (pc := 1) (v := (nI 160)) C dX12_read_1 (by decide) ?_
  refine x_iload_n (pc := 4) C 1 dX12_read_4 rfl ?_
  refine x_imul (pc := 5) C dX12_read_5 ?_
  refine x_eq (show (nI 160) * (nI q) = nI (160 * q) from pk_mul _ _) ?_
  refine p_M_from (pc := 6) C E q15_7 dX12_read_6 ?_
  refine x_aload_n (pc := 9) C 0 dX12_read_9 rfl ?_
  refine x_aload_n (pc := 10) C 0 dX12_read_10 rfl ?_
  refine g_M_textSize (pc := 11) C E q11_13 dX12_read_11 ?_
  refine x_iload_n (pc := 14) C 1 dX12_read_14 rfl ?_
  refine l_RtextSize (pc := 15) C E (by omega) dX12_read_15 ?_
  refine x_eq (show (mu M 0 19 (nI (160 * q))) 2 q = nI n from (by rw [mu_n _ _ _ _ (by decide)]; exact hs)) ?_
  refine p_M_size (pc := 16) C E q15_8 dX12_read_16 ?_
  refine x_aload_n (pc := 19) C 0 dX12_read_19 rfl ?_
  refine x_iconst (pc := 20) (v := (nI 0)) C dX12_read_20 (by decide) ?_
  refine p_M_here (pc := 21) C E q15_9 dX12_read_21 ?_
  refine x_aload_n (pc := 24) C 0 dX12_read_24 rfl ?_
  refine x_iconst (pc := 25) (v := (nI 0)) C dX12_read_25 (by decide) ?_
  refine p_M_open (pc := 26) C E q15_10 dX12_read_26 ?_
  refine x_aload_n (pc := 29) C 0 dX12_read_29 rfl ?_
  refine x_iconst (pc := 30) (v := 0) C dX12_read_30 rfl ?_
  refine p_M_bad (pc := 31) C E q15_11 ⟨rfl, rfl⟩ dX12_read_31 ?_
  have hRr : TR Y n q (mu (mu (mu (mu (mu M 0 19 (nI (160 * q))) 0 20 (nI n)) 0 21 (nI 0)) 0 25 (nI 0)) 0 26 0) := ⟨hn, hq6, ((mu_k _ _ _ _ (by decide)).trans ((mu_k _ _ _ _ (by decide)).trans ((mu_k _ _ _ _ (by decide)).trans ((mu_k _ _ _ _ (by decide)).trans (mu_s _ _ _ _))))), ((mu_k _ _ _ _ (by decide)).trans ((mu_k _ _ _ _ (by decide)).trans ((mu_k _ _ _ _ (by decide)).trans (mu_s _ _ _ _)))), fun k hk => ⟨by rw [mu_n _ _ _ _ (by decide), mu_n _ _ _ _ (by decide), mu_n _ _ _ _ (by decide), mu_n _ _ _ _ (by decide), mu_n _ _ _ _ (by decide)]; exact hb k hk, hbY k hk⟩⟩
  have hfr : Sc M (mu (mu (mu (mu (mu M 0 19 (nI (160 * q))) 0 20 (nI n)) 0 21 (nI 0)) 0 25 (nI 0)) 0 26 0) := (fun a b hab => by rw [mu_at, if_neg (by omega), mu_at, if_neg (by omega), mu_at, if_neg (by omega), mu_at, if_neg (by omega), mu_at, if_neg (by omega)])
  have hnm : nmO (mu (mu (mu (mu (mu M 0 19 (nI (160 * q))) 0 20 (nI n)) 0 21 (nI 0)) 0 25 (nI 0)) 0 26 0) = nmO M := by unfold nmO; simp [mu_at]
  refine x_aload_n (pc := 34) C 0 dX12_read_34 rfl ?_
  refine x_callV (pc := 35) C E [] [] (c_X12_next t (M := mu (mu (mu (mu (mu M 0 19 (nI (160 * q))) 0 20 (nI n)) 0 21 (nI 0)) 0 25 (nI 0)) 0 26 0) hRr (x := 0) ((mu_k _ _ _ _ (by decide)).trans ((mu_k _ _ _ _ (by decide)).trans (mu_s _ _ _ _))) (Nat.zero_le _)) m_X12_next q15_13 xo_M rfl (by decide) (Nat.le_of_ble_eq_true rfl) dX12_read_35 rfl (fun r M35 hc35 => ?_)
  obtain ⟨rfl, hT35, hs35⟩ := hc35
  show XV κ (xP (wR t) M35) 38 _ []
  have hT0 : TkR Y n (pX Y n 0) M35 := hT35
  have h00 : M35 0 26 = 0 := (hs35 _ _ (by omega)).trans (mu_s _ _ _ _)
  have h250 : M35 0 25 = nI (5 - 5) := (hs35 _ _ (by omega)).trans ((mu_k _ _ _ _ (by decide)).trans (mu_s _ _ _ _))
  have hR0 := tr_sp hRr hs35.sp
  have hnm0 : nmO M35 = nmO M := (nmO_sp hs35.sp).trans hnm
  have hfr0 : Sc M M35 := hfr.tr (fun a b hab => hs35 a b (by omega))
  refine x_aload_n (pc := 38) C 0 dX12_read_38 rfl ?_
  refine x_aload_n (pc := 39) C 0 dX12_read_39 rfl ?_
  refine x_bipush (pc := 40) (v := (nI 116)) C dX12_read_40 (by decide) ?_
  refine x_bipush (pc := 42) (v := (nI 97)) C dX12_read_42 (by decide) ?_
  refine x_bipush (pc := 44) (v := (nI 107)) C dX12_read_44 (by decide) ?_
  refine x_bipush (pc := 46) (v := (nI 101)) C dX12_read_46 (by decide) ?_
  refine x_bipush (pc := 48) (v := (nI 115)) C dX12_read_48 (by decide) ?_
  refine x_iconst (pc := 50) (v := (nI 0)) C dX12_read_50 (by decide) ?_
  refine x_iconst (pc := 51) (v := (nI 0)) C dX12_read_51 (by decide) ?_
  refine x_iconst (pc := 52) (v := (nI 0)) C dX12_read_52 (by decide) ?_
  refine x_callV (pc := 53) C E [.int (nI 116), .int (nI 97), .int (nI 107), .int (nI 101), .int (nI 115), .int (nI 0), .int (nI 0), .int (nI 0)] [.ref (t.1 0)] (c_X12_isWord t (M := M35) hR0 hT0 h00 (Nat.zero_le _) (j := 0) (by decide)) m_X12_isWord q16_4 xo_M rfl (by first | decide | omega) (Nat.le_of_ble_eq_true rfl) dX12_read_53 rfl (k_I ?_)
  refine x_eq (show _ = b2i (decide (tkK Y n (pX Y n 0) = nI 4)) from (by rw [rt_key (by decide)])) ?_
  refine x_callV (pc := 56) C E [.int (b2i (decide (tkK Y n (pX Y n 0) = nI 4)))] [] (c_X12_part t (p := 0) (by decide) _ (pX Y n 0) hR0 hT0 h250 h00 (pX_le 0 (by decide))) m_X12_part q16_12 xo_M rfl (by decide) (Nat.le_of_ble_eq_true rfl) dX12_read_56 rfl (fun r M56 hc56 => ?_)
  obtain ⟨w56, rfl, hp56⟩ := hc56
  have hq56 := prm_pre Sp.rf hp56
  show XV κ (xP (wR t) M56) 59 _ [.int w56]
  cases hAa : (pPt Y n 0 (pX Y n 0)).1 with
  | false =>
    obtain ⟨hba, hca⟩ := hq56.2.2 hAa
    refine x_istore_n (pc := 59) (L' := [(3, .int w56), (0, .ref (t.1 0)), (1, .int (nI q)), (2, .int (nI 1))]) C dX12_read_59 (by decide) rfl ?_
    refine x_aload_n (pc := 60) C 1 dX12_read_60 rfl ?_
    refine g_M_bad (pc := 61) C E q15_11 dX12_read_61 ?_
    refine x_eq (show M56 0 26 = 1 from hba) ?_
    refine x_if_eq_f (pc := 64) C 71 dX12_read_64 (by decide) (by decide) ?_
    refine x_iconst (pc := 67) (v := (nI 0)) C dX12_read_67 (by decide) ?_
    refine x_goto (pc := 68) C 91 dX12_read_68 (by decide) ?_
    refine x_istore (pc := 91) (L' := [(4, .int (nI 0)), (3, .int w56), (0, .ref (t.1 0)), (1, .int (nI q)), (2, .int (nI 1))]) C dX12_read_91 (by decide) rfl ?_
    refine x_aload_n (pc := 93) C 2 dX12_read_93 rfl ?_
    refine g_M_bad (pc := 94) C E q15_11 dX12_read_94 ?_
    refine x_eq (show M56 0 26 = 1 from hba) ?_
    refine x_if_eq_f (pc := 97) C 104 dX12_read_97 (by decide) (by decide) ?_
    refine x_iconst (pc := 100) (v := (nI 0)) C dX12_read_100 (by decide) ?_
    refine x_goto (pc := 101) C 125 dX12_read_101 (by decide) ?_
    refine x_istore (pc := 125) (L' := [(5, .int (nI 0)), (4, .int (nI 0)), (3, .int w56), (0, .ref (t.1 0)), (1, .int (nI q)), (2, .int (nI 1))]) C dX12_read_125 (by decide) rfl ?_
    refine x_aload_n (pc := 127) C 3 dX12_read_127 rfl ?_
    refine g_M_bad (pc := 128) C E q15_11 dX12_read_128 ?_
    refine x_eq (show M56 0 26 = 1 from hba) ?_
    refine x_if_ne_t (pc := 131) C 145 dX12_read_131 (by decide) (by decide) ?_
    refine x_iload_n (pc := 145) C 5 dX12_read_145 rfl ?_
    refine x_if_ne_t (pc := 146) C 153 dX12_read_146 (by decide) (by decide) ?_
    refine x_iload_n (pc := 153) C 5 dX12_read_153 rfl ?_
    refine x_iconst (pc := 154) (v := (nI 1)) C dX12_read_154 (by decide) ?_
    refine x_icmp_ne_f (pc := 155) C 163 dX12_read_155 (by decide) (by decide) ?_
    refine x_iload (pc := 158) C 1 dX12_read_158 rfl ?_
    refine x_goto (pc := 160) C 165 dX12_read_160 (by decide) ?_
    exact x_iret (pc := 165) C X dX12_read_165 (rdf_bad hn (pX_le 1 (by decide)) (hfr0.tr (fun a b hab => hq56.1 a b (by omega))) (by rw [rd_F hAa]) hba hca)
  | true =>
    obtain ⟨hwa, hTa, h25a, h0a⟩ := hq56.2.1 hAa
    refine x_istore_n (pc := 59) (L' := [(3, .int w56), (0, .ref (t.1 0)), (1, .int (nI q)), (2, .int (nI 1))]) C dX12_read_59 (by decide) rfl ?_
    refine x_aload_n (pc := 60) C 1 dX12_read_60 rfl ?_
    refine g_M_bad (pc := 61) C E q15_11 dX12_read_61 ?_
    refine x_eq (show M56 0 26 = 0 from h0a) ?_
    refine x_if_eq_t (pc := 64) C 71 dX12_read_64 (by decide) (by decide) ?_
    refine x_aload_n (pc := 71) C 1 dX12_read_71 rfl ?_
    refine x_aload_n (pc := 72) C 1 dX12_read_72 rfl ?_
    refine x_bipush (pc := 73) (v := (nI 103)) C dX12_read_73 (by decide) ?_
    refine x_bipush (pc := 75) (v := (nI 111)) C dX12_read_75 (by decide) ?_
    refine x_bipush (pc := 77) (v := (nI 101)) C dX12_read_77 (by decide) ?_
    refine x_bipush (pc := 79) (v := (nI 115)) C dX12_read_79 (by decide) ?_
    refine x_iconst (pc := 81) (v := (nI 0)) C dX12_read_81 (by decide) ?_
    refine x_iconst (pc := 82) (v := (nI 0)) C dX12_read_82 (by decide) ?_
    refine x_iconst (pc := 83) (v := (nI 0)) C dX12_read_83 (by decide) ?_
    refine x_iconst (pc := 84) (v := (nI 0)) C dX12_read_84 (by decide) ?_
    refine x_callV (pc := 85) C E [.int (nI 103), .int (nI 111), .int (nI 101), .int (nI 115), .int (nI 0), .int (nI 0), .int (nI 0), .int (nI 0)] [.ref (t.1 0)] (c_X12_isWord t (M := M56) (tr_sp hR0 hq56.1) (show TkR Y n (pX Y n 1) M56 from hTa) h0a (pX_le 1 (by decide)) (j := 1) (by decide)) m_X12_isWord q16_4 xo_M rfl (by first | decide | omega) (Nat.le_of_ble_eq_true rfl) dX12_read_85 rfl (k_I ?_)
    refine x_eq (show _ = b2i (decide (tkK Y n (pX Y n 1) = nI 5)) from (by rw [rt_key (by decide)])) ?_
    refine x_callV (pc := 88) C E [.int (b2i (decide (tkK Y n (pX Y n 1) = nI 5)))] [] (c_X12_part t (p := 1) (by decide) _ (pX Y n 1) (tr_sp hR0 hq56.1) (show TkR Y n (pX Y n 1) M56 from hTa) h25a h0a (pX_le 1 (by decide))) m_X12_part q16_12 xo_M rfl (by decide) (Nat.le_of_ble_eq_true rfl) dX12_read_88 rfl (fun r M88 hc88 => ?_)
    obtain ⟨w88, rfl, hp88⟩ := hc88
    have hq88 := prm_pre hq56.1 hp88
    show XV κ (xP (wR t) M88) 91 _ [.int w88]
    cases hAb : (pPt Y n 1 (pX Y n 1)).1 with
    | false =>
      obtain ⟨hbb, hcb⟩ := hq88.2.2 hAb
      refine x_istore (pc := 91) (L' := [(4, .int w88), (3, .int w56), (0, .ref (t.1 0)), (1, .int (nI q)), (2, .int (nI 1))]) C dX12_read_91 (by decide) rfl ?_
      refine x_aload_n (pc := 93) C 2 dX12_read_93 rfl ?_
      refine g_M_bad (pc := 94) C E q15_11 dX12_read_94 ?_
      refine x_eq (show M88 0 26 = 1 from hbb) ?_
      refine x_if_eq_f (pc := 97) C 104 dX12_read_97 (by decide) (by decide) ?_
      refine x_iconst (pc := 100) (v := (nI 0)) C dX12_read_100 (by decide) ?_
      refine x_goto (pc := 101) C 125 dX12_read_101 (by decide) ?_
      refine x_istore (pc := 125) (L' := [(5, .int (nI 0)), (4, .int w88), (3, .int w56), (0, .ref (t.1 0)), (1, .int (nI q)), (2, .int (nI 1))]) C dX12_read_125 (by decide) rfl ?_
      refine x_aload_n (pc := 127) C 3 dX12_read_127 rfl ?_
      refine g_M_bad (pc := 128) C E q15_11 dX12_read_128 ?_
      refine x_eq (show M88 0 26 = 1 from hbb) ?_
      refine x_if_ne_t (pc := 131) C 145 dX12_read_131 (by decide) (by decide) ?_
      refine x_iload_n (pc := 145) C 5 dX12_read_145 rfl ?_
      refine x_if_ne_t (pc := 146) C 153 dX12_read_146 (by decide) (by decide) ?_
      refine x_iload_n (pc := 153) C 5 dX12_read_153 rfl ?_
      refine x_iconst (pc := 154) (v := (nI 1)) C dX12_read_154 (by decide) ?_
      refine x_icmp_ne_f (pc := 155) C 163 dX12_read_155 (by decide) (by decide) ?_
      refine x_iload (pc := 158) C 1 dX12_read_158 rfl ?_
      refine x_goto (pc := 160) C 165 dX12_read_160 (by decide) ?_
      exact x_iret (pc := 165) C X dX12_read_165 (rdf_bad hn (pX_le 2 (by decide)) (hfr0.tr (fun a b hab => hq88.1 a b (by omega))) (by rw [rd_S hAa, rd_F hAb]) hbb hcb)
    | true =>
      obtain ⟨hwb, hTb, h25b, h0b⟩ := hq88.2.1 hAb
      refine x_istore (pc := 91) (L' := [(4, .int w88), (3, .int w56), (0, .ref (t.1 0)), (1, .int (nI q)), (2, .int (nI 1))]) C dX12_read_91 (by decide) rfl ?_
      refine x_aload_n (pc := 93) C 2 dX12_read_93 rfl ?_
      refine g_M_bad (pc := 94) C E q15_11 dX12_read_94 ?_
      refine x_eq (show M88 0 26 = 0 from h0b) ?_
      refine x_if_eq_t (pc := 97) C 104 dX12_read_97 (by decide) (by decide) ?_
      refine x_aload_n (pc := 104) C 2 dX12_read_104 rfl ?_
      refine x_aload_n (pc := 105) C 2 dX12_read_105 rfl ?_
      refine x_bipush (pc := 106) (v := (nI 119)) C dX12_read_106 (by decide) ?_
      refine x_bipush (pc := 108) (v := (nI 111)) C dX12_read_108 (by decide) ?_
      refine x_bipush (pc := 110) (v := (nI 114)) C dX12_read_110 (by decide) ?_
      refine x_bipush (pc := 112) (v := (nI 116)) C dX12_read_112 (by decide) ?_
      refine x_bipush (pc := 114) (v := (nI 104)) C dX12_read_114 (by decide) ?_
      refine x_iconst (pc := 116) (v := (nI 0)) C dX12_read_116 (by decide) ?_
      refine x_iconst (pc := 117) (v := (nI 0)) C dX12_read_117 (by decide) ?_
      refine x_iconst (pc := 118) (v := (nI 0)) C dX12_read_118 (by decide) ?_
      refine x_callV (pc := 119) C E [.int (nI 119), .int (nI 111), .int (nI 114), .int (nI 116), .int (nI 104), .int (nI 0), .int (nI 0), .int (nI 0)] [.ref (t.1 0)] (c_X12_isWord t (M := M88) (tr_sp hR0 hq88.1) (show TkR Y n (pX Y n 2) M88 from hTb) h0b (pX_le 2 (by decide)) (j := 2) (by decide)) m_X12_isWord q16_4 xo_M rfl (by first | decide | omega) (Nat.le_of_ble_eq_true rfl) dX12_read_119 rfl (k_I ?_)
      refine x_eq (show _ = b2i (decide (tkK Y n (pX Y n 2) = nI 6)) from (by rw [rt_key (by decide)])) ?_
      refine x_callV (pc := 122) C E [.int (b2i (decide (tkK Y n (pX Y n 2) = nI 6)))] [] (c_X12_part t (p := 2) (by decide) _ (pX Y n 2) (tr_sp hR0 hq88.1) (show TkR Y n (pX Y n 2) M88 from hTb) h25b h0b (pX_le 2 (by decide))) m_X12_part q16_12 xo_M rfl (by decide) (Nat.le_of_ble_eq_true rfl) dX12_read_122 rfl (fun r M122 hc122 => ?_)
      obtain ⟨w122, rfl, hp122⟩ := hc122
      have hq122 := prm_pre hq88.1 hp122
      show XV κ (xP (wR t) M122) 125 _ [.int w122]
      cases hAc : (pPt Y n 2 (pX Y n 2)).1 with
      | false =>
        obtain ⟨hbc, hcc⟩ := hq122.2.2 hAc
        refine x_istore (pc := 125) (L' := [(5, .int w122), (4, .int w88), (3, .int w56), (0, .ref (t.1 0)), (1, .int (nI q)), (2, .int (nI 1))]) C dX12_read_125 (by decide) rfl ?_
        refine x_aload_n (pc := 127) C 3 dX12_read_127 rfl ?_
        refine g_M_bad (pc := 128) C E q15_11 dX12_read_128 ?_
        refine x_eq (show M122 0 26 = 1 from hbc) ?_
        refine x_if_ne_t (pc := 131) C 145 dX12_read_131 (by decide) (by decide) ?_
        refine x_iload_n (pc := 145) C 5 dX12_read_145 rfl ?_
        refine x_if_ne_t (pc := 146) C 153 dX12_read_146 (by decide) (by decide) ?_
        refine x_iload_n (pc := 153) C 5 dX12_read_153 rfl ?_
        refine x_iconst (pc := 154) (v := (nI 1)) C dX12_read_154 (by decide) ?_
        refine x_icmp_ne_f (pc := 155) C 163 dX12_read_155 (by decide) (by decide) ?_
        refine x_iload (pc := 158) C 1 dX12_read_158 rfl ?_
        refine x_goto (pc := 160) C 165 dX12_read_160 (by decide) ?_
        exact x_iret (pc := 165) C X dX12_read_165 (rdf_bad hn (pX_le 3 (by decide)) (hfr0.tr (fun a b hab => hq122.1 a b (by omega))) (by rw [rd_S hAa, rd_S hAb, rd_F hAc]) hbc hcc)
      | true =>
        obtain ⟨hwc, hTc, h25c, h0c⟩ := hq122.2.1 hAc
        refine x_istore (pc := 125) (L' := [(5, .int w122), (4, .int w88), (3, .int w56), (0, .ref (t.1 0)), (1, .int (nI q)), (2, .int (nI 1))]) C dX12_read_125 (by decide) rfl ?_
        refine x_aload_n (pc := 127) C 3 dX12_read_127 rfl ?_
        refine g_M_bad (pc := 128) C E q15_11 dX12_read_128 ?_
        refine x_eq (show M122 0 26 = 0 from h0c) ?_
        refine x_if_ne_f (pc := 131) C 145 dX12_read_131 (by decide) (by decide) ?_
        refine x_aload_n (pc := 134) C 3 dX12_read_134 rfl ?_
        refine g_M_token (pc := 135) C E q15_12 dX12_read_135 ?_
        refine x_eq (show M122 0 22 = rtk Y n (pX Y n 3) from hTc.2.1) ?_
        refine x_if_eq (pc := 138) C 145 dX12_read_138 (by decide) (fun h138 => ?_) (fun h138 => ?_)
        · refine x_iload_n (pc := 145) C 5 dX12_read_145 rfl ?_
          refine x_if_ne_t (pc := 146) C 153 dX12_read_146 (by decide) (by decide) ?_
          refine x_iload_n (pc := 153) C 5 dX12_read_153 rfl ?_
          refine x_iconst (pc := 154) (v := (nI 1)) C dX12_read_154 (by decide) ?_
          refine x_icmp_ne_f (pc := 155) C 163 dX12_read_155 (by decide) (by decide) ?_
          refine x_iload (pc := 158) C 1 dX12_read_158 rfl ?_
          refine x_goto (pc := 160) C 165 dX12_read_160 (by decide) ?_
          exact x_iret (pc := 165) C X dX12_read_165 ⟨_, rfl, hfr0.tr (fun a b hab => hq122.1 a b (by omega)), fun _ => ⟨h0c, by rw [hwb, hnm0]; rfl⟩, fun e => absurd (show pRd Y n 0 3 = -1 by rw [rd_S hAa, rd_S hAb, rd_S hAc, rd_E (rt_0.mpr h138)]) e⟩
        · refine x_aload_n (pc := 141) C 3 dX12_read_141 rfl ?_
          refine x_callV (pc := 142) C E [] [] (c_X12_fail t (M := M122) (p := tkP Y n (pX Y n 3)) (show TkR Y n (pX Y n 3) M122 from hTc).1 h0c) m_X12_fail q16_16 xo_M rfl (by first | decide | omega) (Nat.le_of_ble_eq_true rfl) dX12_read_142 rfl (k_U ?_)
          refine x_iload_n (pc := 145) C 5 dX12_read_145 rfl ?_
          refine x_if_ne_t (pc := 146) C 153 dX12_read_146 (by decide) (by decide) ?_
          refine x_iload_n (pc := 153) C 5 dX12_read_153 rfl ?_
          refine x_iconst (pc := 154) (v := (nI 1)) C dX12_read_154 (by decide) ?_
          refine x_icmp_ne_f (pc := 155) C 163 dX12_read_155 (by decide) (by decide) ?_
          refine x_iload (pc := 158) C 1 dX12_read_158 rfl ?_
          refine x_goto (pc := 160) C 165 dX12_read_160 (by decide) ?_
          exact x_iret (pc := 165) C X dX12_read_165 (rdf_bad hn (pX_le 3 (by decide)) (hfr0.tr (fun a b hab => by rw [mu_at, if_neg (by omega), mu_at, if_neg (by omega)]; exact hq122.1 a b (by omega))) (by rw [rd_S hAa, rd_S hAb, rd_S hAc, rd_B (fun e => h138 (rt_0.mp e))]) ((mu_k _ _ _ _ (by decide)).trans (mu_s _ _ _ _)) (mu_s _ _ _ _))
      
    
  

set_option maxRecDepth 100000 in
set_option maxHeartbeats 800000 in
theorem c_X12_read2 (t : CT) {M : MM} {Y : Nat → Int32} {n q : Nat} (hn : n ≤ 160) (hq6 : q < 6) (hs : M 2 q = nI n) (hb : ∀ k, k < n → M 1 (160 * q + k) = Y k) (hbY : ∀ k, k < n → 0 ≤ (Y k).toInt) : XMet (wR t) yX12_read cX12_read 6 (some .int) 62 [.ref (t.1 0), .int (nI q), .int (nI 2)] M (RdF Y n 2 M) := by
  refine x_met RX12 (by decide) rfl (Nat.le_of_ble_eq_true rfl) (fun κ C X E => ?_)
  refine x_L (L' := [(0, .ref (t.1 0)), (1, .int (nI q)), (2, .int (nI 2))]) rfl ?_
  refine x_aload_n (pc := 0) C 0 dX12_read_0 rfl ?_
  refine x_sipush (pc := 1) (v := (nI 160)) C dX12_read_1 (by decide) ?_
  refine x_iload_n (pc := 4) C 1 dX12_read_4 rfl ?_
  refine x_imul (pc := 5) C dX12_read_5 ?_
  refine x_eq (show (nI 160) * (nI q) = nI (160 * q) from pk_mul _ _) ?_
  refine p_M_from (pc := 6) C E q15_7 dX12_read_6 ?_
  refine x_aload_n (pc := 9) C 0 dX12_read_9 rfl ?_
  refine x_aload_n (pc := 10) C 0 dX12_read_10 rfl ?_
  refine g_M_textSize (pc := 11) C E q11_13 dX12_read_11 ?_
  refine x_iload_n (pc := 14) C 1 dX12_read_14 rfl ?_
  refine l_RtextSize (pc := 15) C E (by omega) dX12_read_15 ?_
  refine x_eq (show (mu M 0 19 (nI (160 * q))) 2 q = nI n from (by rw [mu_n _ _ _ _ (by decide)]; exact hs)) ?_
  refine p_M_size (pc := 16) C E q15_8 dX12_read_16 ?_
  refine x_aload_n (pc := 19) C 0 dX12_read_19 rfl ?_
  refine x_iconst (pc := 20) (v := (nI 0)) C dX12_read_20 (by decide) ?_
  refine p_M_here (pc := 21) C E q15_9 dX12_read_21 ?_
  refine x_aload_n (pc := 24) C 0 dX12_read_24 rfl ?_
  refine x_iconst (pc := 25) (v := (nI 0)) C dX12_read_25 (by decide) ?_
  refine p_M_open (pc := 26) C E q15_10 dX12_read_26 ?_
  refine x_aload_n (pc := 29) C 0 dX12_read_29 rfl ?_
  refine x_iconst (pc := 30) (v := 0) C dX12_read_30 rfl ?_
  refine p_M_bad (pc := 31) C E q15_11 ⟨rfl, rfl⟩ dX12_read_31 ?_
  have hRr : TR Y n q (mu (mu (mu (mu (mu M 0 19 (nI (160 * q))) 0 20 (nI n)) 0 21 (nI 0)) 0 25 (nI 0)) 0 26 0) := ⟨hn, hq6, ((mu_k _ _ _ _ (by decide)).trans ((mu_k _ _ _ _ (by decide)).trans ((mu_k _ _ _ _ (by decide)).trans ((mu_k _ _ _ _ (by decide)).trans (mu_s _ _ _ _))))), ((mu_k _ _ _ _ (by decide)).trans ((mu_k _ _ _ _ (by decide)).trans ((mu_k _ _ _ _ (by decide)).trans (mu_s _ _ _ _)))), fun k hk => ⟨by rw [mu_n _ _ _ _ (by decide), mu_n _ _ _ _ (by decide), mu_n _ _ _ _ (by decide), mu_n _ _ _ _ (by decide), mu_n _ _ _ _ (by decide)]; exact hb k hk, hbY k hk⟩⟩
  have hfr : Sc M (mu (mu (mu (mu (mu M 0 19 (nI (160 * q))) 0 20 (nI n)) 0 21 (nI 0)) 0 25 (nI 0)) 0 26 0) := (fun a b hab => by rw [mu_at, if_neg (by omega), mu_at, if_neg (by omega), mu_at, if_neg (by omega), mu_at, if_neg (by omega), mu_at, if_neg (by omega)])
  have hnm : nmO (mu (mu (mu (mu (mu M 0 19 (nI (160 * q))) 0 20 (nI n)) 0 21 (nI 0)) 0 25 (nI 0)) 0 26 0) = nmO M := by unfold nmO; simp [mu_at]
  refine x_aload_n (pc := 34) C 0 dX12_read_34 rfl ?_
  refine x_callV (pc := 35) C E [] [] (c_X12_next t (M := mu (mu (mu (mu (mu M 0 19 (nI (160 * q))) 0 20 (nI n)) 0 21 (nI 0)) 0 25 (nI 0)) 0 26 0) hRr (x := 0) ((mu_k _ _ _ _ (by decide)).trans ((mu_k _ _ _ _ (by decide)).trans (mu_s _ _ _ _))) (Nat.zero_le _)) m_X12_next q15_13 xo_M rfl (by decide) (Nat.le_of_ble_eq_true rfl) dX12_read_35 rfl (fun r M35 hc35 => ?_)
  obtain ⟨rfl, hT35, hs35⟩ := hc35
  show XV κ (xP (wR t) M35) 38 _ []
  have hT0 : TkR Y n (pX Y n 0) M35 := hT35
  have h00 : M35 0 26 = 0 := (hs35 _ _ (by omega)).trans (mu_s _ _ _ _)
  have h250 : M35 0 25 = nI (5 - 5) := (hs35 _ _ (by omega)).trans ((mu_k _ _ _ _ (by decide)).trans (mu_s _ _ _ _))
  have hR0 := tr_sp hRr hs35.sp
  have hnm0 : nmO M35 = nmO M := (nmO_sp hs35.sp).trans hnm
  have hfr0 : Sc M M35 := hfr.tr (fun a b hab => hs35 a b (by omega))
  refine x_aload_n (pc := 38) C 0 dX12_read_38 rfl ?_
  refine x_aload_n (pc := 39) C 0 dX12_read_39 rfl ?_
  refine x_bipush (pc := 40) (v := (nI 116)) C dX12_read_40 (by decide) ?_
  refine x_bipush (pc := 42) (v := (nI 97)) C dX12_read_42 (by decide) ?_
  refine x_bipush (pc := 44) (v := (nI 107)) C dX12_read_44 (by decide) ?_
  refine x_bipush (pc := 46) (v := (nI 101)) C dX12_read_46 (by decide) ?_
  refine x_bipush (pc := 48) (v := (nI 115)) C dX12_read_48 (by decide) ?_
  refine x_iconst (pc := 50) (v := (nI 0)) C dX12_read_50 (by decide) ?_
  refine x_iconst (pc := 51) (v := (nI 0)) C dX12_read_51 (by decide) ?_
  refine x_iconst (pc := 52) (v := (nI 0)) C dX12_read_52 (by decide) ?_
  refine x_callV (pc := 53) C E [.int (nI 116), .int (nI 97), .int (nI 107), .int (nI 101), .int (nI 115), .int (nI 0), .int (nI 0), .int (nI 0)] [.ref (t.1 0)] (c_X12_isWord t (M := M35) hR0 hT0 h00 (Nat.zero_le _) (j := 0) (by decide)) m_X12_isWord q16_4 xo_M rfl (by first | decide | omega) (Nat.le_of_ble_eq_true rfl) dX12_read_53 rfl (k_I ?_)
  refine x_eq (show _ = b2i (decide (tkK Y n (pX Y n 0) = nI 4)) from (by rw [rt_key (by decide)])) ?_
  refine x_callV (pc := 56) C E [.int (b2i (decide (tkK Y n (pX Y n 0) = nI 4)))] [] (c_X12_part t (p := 0) (by decide) _ (pX Y n 0) hR0 hT0 h250 h00 (pX_le 0 (by decide))) m_X12_part q16_12 xo_M rfl (by decide) (Nat.le_of_ble_eq_true rfl) dX12_read_56 rfl (fun r M56 hc56 => ?_)
  obtain ⟨w56, rfl, hp56⟩ := hc56
  have hq56 := prm_pre Sp.rf hp56
  show XV κ (xP (wR t) M56) 59 _ [.int w56]
  cases hAa : (pPt Y n 0 (pX Y n 0)).1 with
  | false =>
    obtain ⟨hba, hca⟩ := hq56.2.2 hAa
    refine x_istore_n (pc := 59) (L' := [(3, .int w56), (0, .ref (t.1 0)), (1, .int (nI q)), (2, .int (nI 2))]) C dX12_read_59 (by decide) rfl ?_
    refine x_aload_n (pc := 60) C 1 dX12_read_60 rfl ?_
    refine g_M_bad (pc := 61) C E q15_11 dX12_read_61 ?_
    refine x_eq (show M56 0 26 = 1 from hba) ?_
    refine x_if_eq_f (pc := 64) C 71 dX12_read_64 (by decide) (by decide) ?_
    refine x_iconst (pc := 67) (v := (nI 0)) C dX12_read_67 (by decide) ?_
    refine x_goto (pc := 68) C 91 dX12_read_68 (by decide) ?_
    refine x_istore (pc := 91) (L' := [(4, .int (nI 0)), (3, .int w56), (0, .ref (t.1 0)), (1, .int (nI q)), (2, .int (nI 2))]) C dX12_read_91 (by decide) rfl ?_
    refine x_aload_n (pc := 93) C 2 dX12_read_93 rfl ?_
    refine g_M_bad (pc := 94) C E q15_11 dX12_read_94 ?_
    refine x_eq (show M56 0 26 = 1 from hba) ?_
    refine x_if_eq_f (pc := 97) C 104 dX12_read_97 (by decide) (by decide) ?_
    refine x_iconst (pc := 100) (v := (nI 0)) C dX12_read_100 (by decide) ?_
    refine x_goto (pc := 101) C 125 dX12_read_101 (by decide) ?_
    refine x_istore (pc := 125) (L' := [(5, .int (nI 0)), (4, .int (nI 0)), (3, .int w56), (0, .ref (t.1 0)), (1, .int (nI q)), (2, .int (nI 2))]) C dX12_read_125 (by decide) rfl ?_
    refine x_aload_n (pc := 127) C 3 dX12_read_127 rfl ?_
    refine g_M_bad (pc := 128) C E q15_11 dX12_read_128 ?_
    refine x_eq (show M56 0 26 = 1 from hba) ?_
    refine x_if_ne_t (pc := 131) C 145 dX12_read_131 (by decide) (by decide) ?_
    refine x_iload_n (pc := 145) C 5 dX12_read_145 rfl ?_
    refine x_if_ne_t (pc := 146) C 153 dX12_read_146 (by decide) (by decide) ?_
    refine x_iload_n (pc := 153) C 5 dX12_read_153 rfl ?_
    refine x_iconst (pc := 154) (v := (nI 1)) C dX12_read_154 (by decide) ?_
    refine x_icmp_ne_t (pc := 155) C 163 dX12_read_155 (by decide) (by decide) ?_
    refine x_iload (pc := 163) C 0 dX12_read_163 rfl ?_
    exact x_iret (pc := 165) C X dX12_read_165 (rdf_bad hn (pX_le 1 (by decide)) (hfr0.tr (fun a b hab => hq56.1 a b (by omega))) (by rw [rd_F hAa]) hba hca)
  | true =>
    obtain ⟨hwa, hTa, h25a, h0a⟩ := hq56.2.1 hAa
    refine x_istore_n (pc := 59) (L' := [(3, .int w56), (0, .ref (t.1 0)), (1, .int (nI q)), (2, .int (nI 2))]) C dX12_read_59 (by decide) rfl ?_
    refine x_aload_n (pc := 60) C 1 dX12_read_60 rfl ?_
    refine g_M_bad (pc := 61) C E q15_11 dX12_read_61 ?_
    refine x_eq (show M56 0 26 = 0 from h0a) ?_
    refine x_if_eq_t (pc := 64) C 71 dX12_read_64 (by decide) (by decide) ?_
    refine x_aload_n (pc := 71) C 1 dX12_read_71 rfl ?_
    refine x_aload_n (pc := 72) C 1 dX12_read_72 rfl ?_
    refine x_bipush (pc := 73) (v := (nI 103)) C dX12_read_73 (by decide) ?_
    refine x_bipush (pc := 75) (v := (nI 111)) C dX12_read_75 (by decide) ?_
    refine x_bipush (pc := 77) (v := (nI 101)) C dX12_read_77 (by decide) ?_
    refine x_bipush (pc := 79) (v := (nI 115)) C dX12_read_79 (by decide) ?_
    refine x_iconst (pc := 81) (v := (nI 0)) C dX12_read_81 (by decide) ?_
    refine x_iconst (pc := 82) (v := (nI 0)) C dX12_read_82 (by decide) ?_
    refine x_iconst (pc := 83) (v := (nI 0)) C dX12_read_83 (by decide) ?_
    refine x_iconst (pc := 84) (v := (nI 0)) C dX12_read_84 (by decide) ?_
    refine x_callV (pc := 85) C E [.int (nI 103), .int (nI 111), .int (nI 101), .int (nI 115), .int (nI 0), .int (nI 0), .int (nI 0), .int (nI 0)] [.ref (t.1 0)] (c_X12_isWord t (M := M56) (tr_sp hR0 hq56.1) (show TkR Y n (pX Y n 1) M56 from hTa) h0a (pX_le 1 (by decide)) (j := 1) (by decide)) m_X12_isWord q16_4 xo_M rfl (by first | decide | omega) (Nat.le_of_ble_eq_true rfl) dX12_read_85 rfl (k_I ?_)
    refine x_eq (show _ = b2i (decide (tkK Y n (pX Y n 1) = nI 5)) from (by rw [rt_key (by decide)])) ?_
    refine x_callV (pc := 88) C E [.int (b2i (decide (tkK Y n (pX Y n 1) = nI 5)))] [] (c_X12_part t (p := 1) (by decide) _ (pX Y n 1) (tr_sp hR0 hq56.1) (show TkR Y n (pX Y n 1) M56 from hTa) h25a h0a (pX_le 1 (by decide))) m_X12_part q16_12 xo_M rfl (by decide) (Nat.le_of_ble_eq_true rfl) dX12_read_88 rfl (fun r M88 hc88 => ?_)
    obtain ⟨w88, rfl, hp88⟩ := hc88
    have hq88 := prm_pre hq56.1 hp88
    show XV κ (xP (wR t) M88) 91 _ [.int w88]
    cases hAb : (pPt Y n 1 (pX Y n 1)).1 with
    | false =>
      obtain ⟨hbb, hcb⟩ := hq88.2.2 hAb
      refine x_istore (pc := 91) (L' := [(4, .int w88), (3, .int w56), (0, .ref (t.1 0)), (1, .int (nI q)), (2, .int (nI 2))]) C dX12_read_91 (by decide) rfl ?_
      refine x_aload_n (pc := 93) C 2 dX12_read_93 rfl ?_
      refine g_M_bad (pc := 94) C E q15_11 dX12_read_94 ?_
      refine x_eq (show M88 0 26 = 1 from hbb) ?_
      refine x_if_eq_f (pc := 97) C 104 dX12_read_97 (by decide) (by decide) ?_
      refine x_iconst (pc := 100) (v := (nI 0)) C dX12_read_100 (by decide) ?_
      refine x_goto (pc := 101) C 125 dX12_read_101 (by decide) ?_
      refine x_istore (pc := 125) (L' := [(5, .int (nI 0)), (4, .int w88), (3, .int w56), (0, .ref (t.1 0)), (1, .int (nI q)), (2, .int (nI 2))]) C dX12_read_125 (by decide) rfl ?_
      refine x_aload_n (pc := 127) C 3 dX12_read_127 rfl ?_
      refine g_M_bad (pc := 128) C E q15_11 dX12_read_128 ?_
      refine x_eq (show M88 0 26 = 1 from hbb) ?_
      refine x_if_ne_t (pc := 131) C 145 dX12_read_131 (by decide) (by decide) ?_
      refine x_iload_n (pc := 145) C 5 dX12_read_145 rfl ?_
      refine x_if_ne_t (pc := 146) C 153 dX12_read_146 (by decide) (by decide) ?_
      refine x_iload_n (pc := 153) C 5 dX12_read_153 rfl ?_
      refine x_iconst (pc := 154) (v := (nI 1)) C dX12_read_154 (by decide) ?_
      refine x_icmp_ne_t (pc := 155) C 163 dX12_read_155 (by decide) (by decide) ?_
      refine x_iload (pc := 163) C 0 dX12_read_163 rfl ?_
      exact x_iret (pc := 165) C X dX12_read_165 (rdf_bad hn (pX_le 2 (by decide)) (hfr0.tr (fun a b hab => hq88.1 a b (by omega))) (by rw [rd_S hAa, rd_F hAb]) hbb hcb)
    | true =>
      obtain ⟨hwb, hTb, h25b, h0b⟩ := hq88.2.1 hAb
      refine x_istore (pc := 91) (L' := [(4, .int w88), (3, .int w56), (0, .ref (t.1 0)), (1, .int (nI q)), (2, .int (nI 2))]) C dX12_read_91 (by decide) rfl ?_
      refine x_aload_n (pc := 93) C 2 dX12_read_93 rfl ?_
      refine g_M_bad (pc := 94) C E q15_11 dX12_read_94 ?_
      refine x_eq (show M88 0 26 = 0 from h0b) ?_
      refine x_if_eq_t (pc := 97) C 104 dX12_read_97 (by decide) (by decide) ?_
      refine x_aload_n (pc := 104) C 2 dX12_read_104 rfl ?_
      refine x_aload_n (pc := 105) C 2 dX12_read_105 rfl ?_
      refine x_bipush (pc := 106) (v := (nI 119)) C dX12_read_106 (by decide) ?_
      refine x_bipush (pc := 108) (v := (nI 111)) C dX12_read_108 (by decide) ?_
      refine x_bipush (pc := 110) (v := (nI 114)) C dX12_read_110 (by decide) ?_
      refine x_bipush (pc := 112) (v := (nI 116)) C dX12_read_112 (by decide) ?_
      refine x_bipush (pc := 114) (v := (nI 104)) C dX12_read_114 (by decide) ?_
      refine x_iconst (pc := 116) (v := (nI 0)) C dX12_read_116 (by decide) ?_
      refine x_iconst (pc := 117) (v := (nI 0)) C dX12_read_117 (by decide) ?_
      refine x_iconst (pc := 118) (v := (nI 0)) C dX12_read_118 (by decide) ?_
      refine x_callV (pc := 119) C E [.int (nI 119), .int (nI 111), .int (nI 114), .int (nI 116), .int (nI 104), .int (nI 0), .int (nI 0), .int (nI 0)] [.ref (t.1 0)] (c_X12_isWord t (M := M88) (tr_sp hR0 hq88.1) (show TkR Y n (pX Y n 2) M88 from hTb) h0b (pX_le 2 (by decide)) (j := 2) (by decide)) m_X12_isWord q16_4 xo_M rfl (by first | decide | omega) (Nat.le_of_ble_eq_true rfl) dX12_read_119 rfl (k_I ?_)
      refine x_eq (show _ = b2i (decide (tkK Y n (pX Y n 2) = nI 6)) from (by rw [rt_key (by decide)])) ?_
      refine x_callV (pc := 122) C E [.int (b2i (decide (tkK Y n (pX Y n 2) = nI 6)))] [] (c_X12_part t (p := 2) (by decide) _ (pX Y n 2) (tr_sp hR0 hq88.1) (show TkR Y n (pX Y n 2) M88 from hTb) h25b h0b (pX_le 2 (by decide))) m_X12_part q16_12 xo_M rfl (by decide) (Nat.le_of_ble_eq_true rfl) dX12_read_122 rfl (fun r M122 hc122 => ?_)
      obtain ⟨w122, rfl, hp122⟩ := hc122
      have hq122 := prm_pre hq88.1 hp122
      show XV κ (xP (wR t) M122) 125 _ [.int w122]
      cases hAc : (pPt Y n 2 (pX Y n 2)).1 with
      | false =>
        obtain ⟨hbc, hcc⟩ := hq122.2.2 hAc
        refine x_istore (pc := 125) (L' := [(5, .int w122), (4, .int w88), (3, .int w56), (0, .ref (t.1 0)), (1, .int (nI q)), (2, .int (nI 2))]) C dX12_read_125 (by decide) rfl ?_
        refine x_aload_n (pc := 127) C 3 dX12_read_127 rfl ?_
        refine g_M_bad (pc := 128) C E q15_11 dX12_read_128 ?_
        refine x_eq (show M122 0 26 = 1 from hbc) ?_
        refine x_if_ne_t (pc := 131) C 145 dX12_read_131 (by decide) (by decide) ?_
        refine x_iload_n (pc := 145) C 5 dX12_read_145 rfl ?_
        refine x_if_ne_t (pc := 146) C 153 dX12_read_146 (by decide) (by decide) ?_
        refine x_iload_n (pc := 153) C 5 dX12_read_153 rfl ?_
        refine x_iconst (pc := 154) (v := (nI 1)) C dX12_read_154 (by decide) ?_
        refine x_icmp_ne_t (pc := 155) C 163 dX12_read_155 (by decide) (by decide) ?_
        refine x_iload (pc := 163) C 0 dX12_read_163 rfl ?_
        exact x_iret (pc := 165) C X dX12_read_165 (rdf_bad hn (pX_le 3 (by decide)) (hfr0.tr (fun a b hab => hq122.1 a b (by omega))) (by rw [rd_S hAa, rd_S hAb, rd_F hAc]) hbc hcc)
      | true =>
        obtain ⟨hwc, hTc, h25c, h0c⟩ := hq122.2.1 hAc
        refine x_istore (pc := 125) (L' := [(5, .int w122), (4, .int w88), (3, .int w56), (0, .ref (t.1 0)), (1, .int (nI q)), (2, .int (nI 2))]) C dX12_read_125 (by decide) rfl ?_
        refine x_aload_n (pc := 127) C 3 dX12_read_127 rfl ?_
        refine g_M_bad (pc := 128) C E q15_11 dX12_read_128 ?_
        refine x_eq (show M122 0 26 = 0 from h0c) ?_
        refine x_if_ne_f (pc := 131) C 145 dX12_read_131 (by decide) (by decide) ?_
        refine x_aload_n (pc := 134) C 3 dX12_read_134 rfl ?_
        refine g_M_token (pc := 135) C E q15_12 dX12_read_135 ?_
        refine x_eq (show M122 0 22 = rtk Y n (pX Y n 3) from hTc.2.1) ?_
        refine x_if_eq (pc := 138) C 145 dX12_read_138 (by decide) (fun h138 => ?_) (fun h138 => ?_)
        · refine x_iload_n (pc := 145) C 5 dX12_read_145 rfl ?_
          refine x_if_ne_t (pc := 146) C 153 dX12_read_146 (by decide) (by decide) ?_
          refine x_iload_n (pc := 153) C 5 dX12_read_153 rfl ?_
          refine x_iconst (pc := 154) (v := (nI 1)) C dX12_read_154 (by decide) ?_
          refine x_icmp_ne_t (pc := 155) C 163 dX12_read_155 (by decide) (by decide) ?_
          refine x_iload (pc := 163) C 0 dX12_read_163 rfl ?_
          exact x_iret (pc := 165) C X dX12_read_165 ⟨_, rfl, hfr0.tr (fun a b hab => hq122.1 a b (by omega)), fun _ => ⟨h0c, by rw [hwc, hnm0]; rfl⟩, fun e => absurd (show pRd Y n 0 3 = -1 by rw [rd_S hAa, rd_S hAb, rd_S hAc, rd_E (rt_0.mpr h138)]) e⟩
        · refine x_aload_n (pc := 141) C 3 dX12_read_141 rfl ?_
          refine x_callV (pc := 142) C E [] [] (c_X12_fail t (M := M122) (p := tkP Y n (pX Y n 3)) (show TkR Y n (pX Y n 3) M122 from hTc).1 h0c) m_X12_fail q16_16 xo_M rfl (by first | decide | omega) (Nat.le_of_ble_eq_true rfl) dX12_read_142 rfl (k_U ?_)
          refine x_iload_n (pc := 145) C 5 dX12_read_145 rfl ?_
          refine x_if_ne_t (pc := 146) C 153 dX12_read_146 (by decide) (by decide) ?_
          refine x_iload_n (pc := 153) C 5 dX12_read_153 rfl ?_
          refine x_iconst (pc := 154) (v := (nI 1)) C dX12_read_154 (by decide) ?_
          refine x_icmp_ne_t (pc := 155) C 163 dX12_read_155 (by decide) (by decide) ?_
          refine x_iload (pc := 163) C 0 dX12_read_163 rfl ?_
          exact x_iret (pc := 165) C X dX12_read_165 (rdf_bad hn (pX_le 3 (by decide)) (hfr0.tr (fun a b hab => by rw [mu_at, if_neg (by omega), mu_at, if_neg (by omega)]; exact hq122.1 a b (by omega))) (by rw [rd_S hAa, rd_S hAb, rd_S hAc, rd_B (fun e => h138 (rt_0.mp e))]) ((mu_k _ _ _ _ (by decide)).trans (mu_s _ _ _ _)) (mu_s _ _ _ _))
      
    
  

