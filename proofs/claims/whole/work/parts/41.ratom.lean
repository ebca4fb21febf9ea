theorem prm_val {Y : Nat → Int32} {n op : Nat} {R R' : PR} {w w' : Int32} {A B : MM} (h : PRm Y n op R w A B) (h1 : R'.1 = R.1) (h2 : R'.2.1 = R.2.1) (h3 : R.1 = true → w = R.2.2.2 (nmO A) → w' = R'.2.2.2 (nmO A)) : PRm Y n op R' w' A B :=
  ⟨h.1, fun hr => ⟨h3 (h1 ▸ hr) (h.2.1 (h1 ▸ hr)).1, by rw [h2]; exact (h.2.1 (h1 ▸ hr)).2.1, (h.2.1 (h1 ▸ hr)).2.2⟩, fun hr => by rw [h2]; exact h.2.2 (h1 ▸ hr)⟩
theorem prm_dec {Y : Nat → Int32} {n op op' : Nat} {R R' : PR} {w w' : Int32} {A B : MM} (h : PRm Y n op' R w A B) (ho : op' = op + 1) (h1 : R'.1 = R.1) (h2 : R'.2.1 = R.2.1) (h3 : R.1 = true → w = R.2.2.2 (nmO A) → w' = R'.2.2.2 (nmO A)) : PRm Y n op R' w' A (mu B 0 25 (B 0 25 - nI 1)) := by
  subst ho
  have g := prm_val h h1 h2 h3
  refine ⟨g.1.tr (fun a b hab => by rw [mu_at, if_neg (by omega)]), fun hr => ?_, fun hr => ?_⟩
  · obtain ⟨q1, q2, q3, q4⟩ := g.2.1 hr
    exact ⟨q1, tkr_fr q2 (fun b g1 g2 => by rw [mu_at, if_neg (by omega)]), by rw [mu_s, q3]; exact nI_pred _, by rw [mu_k _ _ _ _ (by decide)]; exact q4⟩
  · obtain ⟨q1, q2⟩ := g.2.2 hr
    exact ⟨by rw [mu_k _ _ _ _ (by decide)]; exact q1, by rw [mu_k _ _ _ _ (by decide)]; exact q2⟩
theorem prf_bad {Y : Nat → Int32} {n op : Nat} {R : PR} {w : Int32} {A B : MM} (hf : Sp A B) (h1 : R.1 = false) (h2 : B 0 26 = 1) (h3 : B 0 27 = nI (tkP Y n R.2.1)) : PRf Y n op R A (some (.int w)) B := ⟨w, rfl, hf, (fun hr => by rw [h1] at hr; cases hr), fun _ => ⟨h2, h3⟩⟩
theorem prf_ok {Y : Nat → Int32} {n op : Nat} {R : PR} {w : Int32} {A B : MM} (hf : Sp A B) (h1 : R.1 = true) (hw : w = R.2.2.2 (nmO A)) (hT : TkR Y n R.2.1 B) (h25 : B 0 25 = nI op) (h26 : B 0 26 = 0) : PRf Y n op R A (some (.int w)) B := ⟨w, rfl, hf, fun _ => ⟨hw, hT, h25, h26⟩, (fun hr => by rw [h1] at hr; cases hr)⟩
theorem stp_4 {k : Int32} (h : k ≠ 42) : stp 4 k = -1 := by unfold stp; simp [h]
theorem stp_3 {k : Int32} (h : k ≠ 43) (h2 : k ≠ 45) : stp 3 k = -1 := by unfold stp; simp [h, h2]
theorem stp_2 {k : Int32} (h : k ≠ 60) (h2 : k ≠ 61) : stp 2 k = -1 := by unfold stp; simp [h, h2]
theorem stp_1 {k : Int32} (h : k ≠ 8) : stp 1 k = -1 := by unfold stp; simp [h]
theorem stp_0 {k : Int32} (h : k ≠ 7) : stp 0 k = -1 := by unfold stp; simp [h]
set_option maxRecDepth 100000 in
set_option maxHeartbeats 800000 in
theorem c_X12_atom (t : CT) {Y : Nat → Int32} {n q : Nat} {g : Nat} (hg : g ≤ 5) {g0 : Bool} (h0g : g0 = decide (g = 0)) {sub : Nat → Nat → PR} (hA : g0 = false → (∀ (M : MM) (x : Nat), TR Y n q M → TkR Y n x M → M 0 25 = nI (5 - (g - 1)) → M 0 26 = 0 → x ≤ n → XMet (wR t) yX12_atom cX12_atom 2 (some .int) (5 + 10 * (g - 1)) [.ref (t.1 0)] M (PRf Y n (5 - (g - 1)) (sub 0 x) M))) (hE : g0 = false → (∀ (M : MM) (x : Nat), TR Y n q M → TkR Y n x M → M 0 25 = nI (5 - (g - 1)) → M 0 26 = 0 → x ≤ n → XMet (wR t) yX12_either cX12_either 3 (some .int) (10 + 10 * (g - 1)) [.ref (t.1 0)] M (PRf Y n (5 - (g - 1)) (sub 5 x) M))) (hPG : g0 = false → ∀ y, y ≤ n → ∀ m, (sub m y).2.1 ≤ n) (M : MM) (x : Nat) (hR : TR Y n q M) (hT : TkR Y n x M) (h25 : M 0 25 = nI (5 - g)) (h0 : M 0 26 = 0) (hxn : x ≤ n) : XMet (wR t) yX12_atom cX12_atom 2 (some .int) (5 + 10 * g) [.ref (t.1 0)] M (PRf Y n (5 - g) (pOne Y n g0 sub x) M) := by
  refine x_met RX12 (by decide) rfl (Nat.le_of_ble_eq_true rfl) (fun κ C X E => ?_)
  refine x_L (L' := [(0, .ref (t.1 0))]) rfl ?_
  have h160 := hR.1
  have hq6 := hR.2.1
  refine x_iconst (pc := 0) (v := (nI 0)) C dX12_atom_0 (by decide) ?_
  refine x_istore_n (pc := 1) (L' := [(1, .int (nI 0)), (0, .ref (t.1 0))]) C dX12_atom_1 (by decide) rfl ?_
  refine x_aload_n (pc := 2) C 1 dX12_atom_2 rfl ?_
  refine x_bipush (pc := 3) (v := (nI 45)) C dX12_atom_3 (by decide) ?_
  refine x_callV (pc := 5) C E [.int (nI 45)] [] (c_X12_isSign t (M := M) hT h0 (s := 45) (by decide)) m_X12_isSign q17_9 xo_M rfl (by first | decide | omega) (Nat.le_of_ble_eq_true rfl) dX12_atom_5 rfl (k_I ?_)
  refine x_ifb_eq (pc := 8) C 37 dX12_atom_8 (by decide) (fun h8 => ?_) (fun h8 => ?_)
  · refine x_aload_n (pc := 37) C 1 dX12_atom_37 rfl ?_
    refine x_bipush (pc := 38) (v := (nI 40)) C dX12_atom_38 (by decide) ?_
    refine x_callV (pc := 40) C E [.int (nI 40)] [] (c_X12_isSign t (M := M) hT h0 (s := 40) (by decide)) m_X12_isSign q17_9 xo_M rfl (by first | decide | omega) (Nat.le_of_ble_eq_true rfl) dX12_atom_40 rfl (k_I ?_)
    refine x_ifb_eq (pc := 43) C 95 dX12_atom_43 (by decide) (fun h43 => ?_) (fun h43 => ?_)
    · refine x_aload_n (pc := 95) C 1 dX12_atom_95 rfl ?_
      refine g_M_bad (pc := 96) C E q15_11 dX12_atom_96 ?_
      refine x_eq (show M 0 26 = 0 from h0) ?_
      refine x_if_ne_f (pc := 99) C 123 dX12_atom_99 (by decide) (by decide) ?_
      refine x_aload_n (pc := 102) C 1 dX12_atom_102 rfl ?_
      refine g_M_token (pc := 103) C E q15_12 dX12_atom_103 ?_
      refine x_eq (show M 0 22 = rtk Y n x from hT.2.1) ?_
      refine x_iconst (pc := 106) (v := (nI 2)) C dX12_atom_106 (by decide) ?_
      refine x_icmp_ne (pc := 107) C 123 dX12_atom_107 (by decide) (fun h107 => ?_) (fun h107 => ?_)
      · refine x_aload_n (pc := 123) C 1 dX12_atom_123 rfl ?_
        refine g_M_bad (pc := 124) C E q15_11 dX12_atom_124 ?_
        refine x_eq (show M 0 26 = 0 from h0) ?_
        refine x_if_ne_f (pc := 127) C 157 dX12_atom_127 (by decide) (by decide) ?_
        refine x_aload_n (pc := 130) C 1 dX12_atom_130 rfl ?_
        refine g_M_token (pc := 131) C E q15_12 dX12_atom_131 ?_
        refine x_eq (show M 0 22 = rtk Y n x from hT.2.1) ?_
        refine x_iconst (pc := 134) (v := (nI 1)) C dX12_atom_134 (by decide) ?_
        refine x_icmp_ne (pc := 135) C 157 dX12_atom_135 (by decide) (fun h135 => ?_) (fun h135 => ?_)
        · refine x_aload_n (pc := 157) C 1 dX12_atom_157 rfl ?_
          refine x_callV (pc := 158) C E [] [] (c_X12_fail t (M := M) (p := tkP Y n x) hT.1 h0) m_X12_fail q16_16 xo_M rfl (by first | decide | omega) (Nat.le_of_ble_eq_true rfl) dX12_atom_158 rfl (k_U ?_)
          refine x_iload_n (pc := 161) C 0 dX12_atom_161 rfl ?_
          exact x_iret (pc := 162) C X dX12_atom_162 (by have eR : pOne Y n g0 sub x = pzF x := (by unfold pOne; rw [if_neg (fun e => h107 (rt_num.mp e)), if_neg (fun e => h135 (rt_3 e)), if_pos (Or.inl ⟨of_decide_eq_false h43, of_decide_eq_false h8⟩)]); rw [eR]; exact prf_bad (fun a b hab => (by rw [mu_at, if_neg (by omega), mu_at, if_neg (by omega)])) rfl ((mu_k _ _ _ _ (by decide)).trans (mu_s _ _ _ _)) (mu_s _ _ _ _))
        · refine x_aload_n (pc := 138) C 1 dX12_atom_138 rfl ?_
          refine x_callV (pc := 139) C E [] [] (c_X12_name t (M := M) hR hT h0 hxn h135) m_X12_name q17_21 xo_M rfl (by omega) (Nat.le_of_ble_eq_true rfl) dX12_atom_139 rfl (fun r M139 hc139 => ?_)
          by_cases h3 : tkK Y n x = 3
          · obtain ⟨rfl, eM⟩ := hc139.1 h3
            refine x_M eM ?_
            show XV κ (xP (wR t) M) 142 _ [.int (nmO M (tkV Y n x).toNatClampNeg)]
            refine x_istore_n (pc := 142) (L' := [(1, .int (nmO M (tkV Y n x).toNatClampNeg)), (0, .ref (t.1 0))]) C dX12_atom_142 (by decide) rfl ?_
            refine x_aload_n (pc := 143) C 1 dX12_atom_143 rfl ?_
            refine g_M_bad (pc := 144) C E q15_11 dX12_atom_144 ?_
            refine x_eq (show M 0 26 = 0 from h0) ?_
            refine x_if_ne_f (pc := 147) C 161 dX12_atom_147 (by decide) (by decide) ?_
            refine x_aload_n (pc := 150) C 1 dX12_atom_150 rfl ?_
            have hTn151 : TkR Y n x (M) := hT
            have hRn151 : TR Y n q (M) := hR
            have hfn151 : Sp M (M) := Sp.rf
            have h0n151 : (M) 0 26 = 0 := (by exact h0)
            have hxn151 := tkE_le (Y := Y) hxn
            refine x_callV (pc := 151) C E [] [] (c_X12_next t (M := M) hRn151 (x := tkE Y n x) (hTn151.2.2.1 (by rw [h135]; decide)) hxn151) m_X12_next q15_13 xo_M rfl (by first | decide | omega) (Nat.le_of_ble_eq_true rfl) dX12_atom_151 rfl (fun r M151 hc151 => ?_)
            obtain ⟨rfl, hT151, hs151⟩ := hc151
            show XV κ (xP (wR t) M151) 154 _ []
            refine x_goto (pc := 154) C 161 dX12_atom_154 (by decide) ?_
            refine x_iload_n (pc := 161) C 0 dX12_atom_161 rfl ?_
            exact x_iret (pc := 162) C X dX12_atom_162 (by have eR : pOne Y n g0 sub x = (true, tkE Y n x, [-1 - tkV Y n x], fun nm => nm (tkV Y n x).toNatClampNeg) := (by unfold pOne; rw [if_neg (fun e => h107 (rt_num.mp e)), if_pos h3]); rw [eR]; exact prf_ok (hfn151.tr hs151.sp) rfl rfl hT151 ((hs151 _ _ (by omega)).trans h25) ((hs151 _ _ (by omega)).trans h0n151))
          · obtain ⟨rfl, rfl⟩ := hc139.2 h3
            show XV κ (xP (wR t) (mu (mu M 0 26 1) 0 27 (nI (tkP Y n x)))) 142 _ [.int (nI 0)]
            refine x_istore_n (pc := 142) (L' := [(1, .int (nI 0)), (0, .ref (t.1 0))]) C dX12_atom_142 (by decide) rfl ?_
            refine x_aload_n (pc := 143) C 1 dX12_atom_143 rfl ?_
            refine g_M_bad (pc := 144) C E q15_11 dX12_atom_144 ?_
            refine x_eq (show (mu (mu M 0 26 1) 0 27 (nI (tkP Y n x))) 0 26 = 1 from ((mu_k _ _ _ _ (by decide)).trans (mu_s _ _ _ _))) ?_
            refine x_if_ne_t (pc := 147) C 161 dX12_atom_147 (by decide) (by decide) ?_
            refine x_iload_n (pc := 161) C 0 dX12_atom_161 rfl ?_
            exact x_iret (pc := 162) C X dX12_atom_162 (by have eR : pOne Y n g0 sub x = pzF x := (by unfold pOne; rw [if_neg (fun e => h107 (rt_num.mp e)), if_neg h3, if_pos (Or.inl ⟨of_decide_eq_false h43, of_decide_eq_false h8⟩)]); rw [eR]; exact prf_bad (fun a b hab => (by rw [mu_at, if_neg (by omega), mu_at, if_neg (by omega)])) rfl ((mu_k _ _ _ _ (by decide)).trans (mu_s _ _ _ _)) (mu_s _ _ _ _))
      · refine x_aload_n (pc := 110) C 1 dX12_atom_110 rfl ?_
        refine g_M_tokenWorth (pc := 111) C E q15_22 dX12_atom_111 ?_
        refine x_l2i (pc := 114) C dX12_atom_114 ?_
        refine x_eq (show Int64.toInt32 ((M 0 24).toInt64) = tkV Y n x from (by rw [hT.2.2.2.1 h107]; exact l2i2l _)) ?_
        refine x_istore_n (pc := 115) (L' := [(1, .int (tkV Y n x)), (0, .ref (t.1 0))]) C dX12_atom_115 (by decide) rfl ?_
        refine x_aload_n (pc := 116) C 1 dX12_atom_116 rfl ?_
        have hTn117 : TkR Y n x (M) := hT
        have hRn117 : TR Y n q (M) := hR
        have hfn117 : Sp M (M) := Sp.rf
        have h0n117 : (M) 0 26 = 0 := (by exact h0)
        have hxn117 := tkE_le (Y := Y) hxn
        refine x_callV (pc := 117) C E [] [] (c_X12_next t (M := M) hRn117 (x := tkE Y n x) (hTn117.2.2.1 (by rw [h107]; decide)) hxn117) m_X12_next q15_13 xo_M rfl (by first | decide | omega) (Nat.le_of_ble_eq_true rfl) dX12_atom_117 rfl (fun r M117 hc117 => ?_)
        obtain ⟨rfl, hT117, hs117⟩ := hc117
        show XV κ (xP (wR t) M117) 120 _ []
        refine x_goto (pc := 120) C 161 dX12_atom_120 (by decide) ?_
        refine x_iload_n (pc := 161) C 0 dX12_atom_161 rfl ?_
        exact x_iret (pc := 162) C X dX12_atom_162 (by have eR : pOne Y n g0 sub x = (true, tkE Y n x, [tkV Y n x], fun _ => tkV Y n x) := (by unfold pOne; rw [if_pos (rt_num.mpr h107)]); rw [eR]; exact prf_ok (hfn117.tr hs117.sp) rfl rfl hT117 ((hs117 _ _ (by omega)).trans h25) ((hs117 _ _ (by omega)).trans h0n117))
    · refine x_aload_n (pc := 46) C 1 dX12_atom_46 rfl ?_
      by_cases hg0 : g = 0
      · refine x_callV (pc := 47) C E [] [] (c_X12_opens5 t (M := M) hT h0 (by rw [h25, hg0])) m_X12_opens q17_14 xo_M rfl (by omega) (Nat.le_of_ble_eq_true rfl) dX12_atom_47 rfl (fun r M47 hc47 => ?_)
        obtain ⟨rfl, rfl⟩ := hc47
        have hgt : g0 = true := by rw [h0g]; exact decide_eq_true hg0
        show XV κ (xP (wR t) (mu (mu M 0 26 1) 0 27 (nI (tkP Y n x)))) 50 _ [.int (b2i false)]
        refine x_eq (show b2i false = 0 from rfl) ?_
        refine x_if_eq_t (pc := 50) C 161 dX12_atom_50 (by decide) (by decide) ?_
        refine x_iload_n (pc := 161) C 0 dX12_atom_161 rfl ?_
        exact x_iret (pc := 162) C X dX12_atom_162 (by have eR : pOne Y n g0 sub x = pzF x := (by unfold pOne; rw [if_neg (by rw [(show tkK Y n x = 40 from of_decide_eq_true h43)]; decide), if_neg (by rw [(show tkK Y n x = 40 from of_decide_eq_true h43)]; decide), if_pos (Or.inr hgt)]); rw [eR]; exact prf_bad (fun a b hab => (by rw [mu_at, if_neg (by omega), mu_at, if_neg (by omega)])) rfl ((mu_k _ _ _ _ (by decide)).trans (mu_s _ _ _ _)) (mu_s _ _ _ _))
      · refine x_callV (pc := 47) C E [] [] (c_X12_opens t (M := M) hR hT h0 hxn h25 (by omega) (fun e => by rw [((rt_sign (by decide)).mp (of_decide_eq_true h43)).1] at e; exact absurd e (by decide))) m_X12_opens q17_14 xo_M rfl (by omega) (Nat.le_of_ble_eq_true rfl) dX12_atom_47 rfl (fun r M47 hc47 => ?_)
        obtain ⟨rfl, hT47, g2547, h047, hf47⟩ := hc47
        have hgf : g0 = false := by rw [h0g]; exact decide_eq_false hg0
        have h2547 : M47 0 25 = nI (5 - (g - 1)) := g2547.trans (by congr 1; omega)
        show XV κ (xP (wR t) M47) 50 _ [.int (b2i true)]
        refine x_eq (show b2i true = 1 from rfl) ?_
        refine x_if_eq_f (pc := 50) C 161 dX12_atom_50 (by decide) (by decide) ?_
        refine x_aload_n (pc := 53) C 1 dX12_atom_53 rfl ?_
        refine x_callV (pc := 54) C E [] [] (hE hgf _ (tkE Y n x) (tr_sp hR hf47) hT47 h2547 h047 (tkE_le (Y := Y) hxn)) m_X12_either q16_21 xo_M rfl (by omega) (Nat.le_of_ble_eq_true rfl) dX12_atom_54 rfl (fun r M54 hc54 => ?_)
        obtain ⟨w54, rfl, hp54⟩ := hc54
        have hq54 := prm_pre (Sp.rf.tr hf47) hp54
        show XV κ (xP (wR t) M54) 57 _ [.int w54]
        refine x_istore_n (pc := 57) (L' := [(1, .int w54), (0, .ref (t.1 0))]) C dX12_atom_57 (by decide) rfl ?_
        cases hAa : ((sub 5 (tkE Y n x))).1 with
        | false =>
          obtain ⟨hba, hca⟩ := hq54.2.2 hAa
          refine x_aload_n (pc := 58) C 1 dX12_atom_58 rfl ?_
          refine x_bipush (pc := 59) (v := (nI 41)) C dX12_atom_59 (by decide) ?_
          refine x_callV (pc := 61) C E [.int (nI 41)] [] (c_X12_isSign_b t (M := M54) hba _) m_X12_isSign q17_9 xo_M rfl (by first | decide | omega) (Nat.le_of_ble_eq_true rfl) dX12_atom_61 rfl (k_I ?_)
          refine x_eq (show b2i false = 0 from rfl) ?_
          refine x_if_ne_f (pc := 64) C 71 dX12_atom_64 (by decide) (by decide) ?_
          refine x_aload_n (pc := 67) C 1 dX12_atom_67 rfl ?_
          refine x_callV (pc := 68) C E [] [] (c_X12_fail_b t (M := M54) hba) m_X12_fail q16_16 xo_M rfl (by first | decide | omega) (Nat.le_of_ble_eq_true rfl) dX12_atom_68 rfl (k_U ?_)
          refine x_aload_n (pc := 71) C 1 dX12_atom_71 rfl ?_
          refine x_dup (pc := 72) C dX12_atom_72 rfl ?_
          refine g_M_open (pc := 73) C E q15_10 dX12_atom_73 ?_
          refine x_iconst (pc := 76) (v := (nI 1)) C dX12_atom_76 (by decide) ?_
          refine x_isub (pc := 77) C dX12_atom_77 ?_
          refine p_M_open (pc := 78) C E q15_10 dX12_atom_78 ?_
          refine x_aload_n (pc := 81) C 1 dX12_atom_81 rfl ?_
          refine g_M_bad (pc := 82) C E q15_11 dX12_atom_82 ?_
          refine x_eq (show (mu M54 0 25 ((M54 0 25) - (nI 1))) 0 26 = 1 from ((mu_k _ _ _ _ (by decide)).trans hba)) ?_
          refine x_if_ne_t (pc := 85) C 161 dX12_atom_85 (by decide) (by decide) ?_
          refine x_iload_n (pc := 161) C 0 dX12_atom_161 rfl ?_
          exact x_iret (pc := 162) C X dX12_atom_162 (by have eR : pOne Y n g0 sub x = pzF (sub 5 (tkE Y n x)).2.1 := (by unfold pOne; rw [if_neg (by rw [(show tkK Y n x = 40 from of_decide_eq_true h43)]; decide), if_neg (by rw [(show tkK Y n x = 40 from of_decide_eq_true h43)]; decide), if_neg (fun e => e.elim (fun e => e.1 (show tkK Y n x = 40 from of_decide_eq_true h43)) (fun e => by rw [hgf] at e; cases e)), if_pos (show tkK Y n x = 40 from of_decide_eq_true h43)]; unfold pCl; rw [if_pos hAa]); rw [eR]; exact ⟨_, rfl, prm_dec (op := 5 - g) (R' := pzF (sub 5 (tkE Y n x)).2.1) hq54 (by omega) hAa.symm rfl (fun e => by rw [hAa] at e; cases e)⟩)
        | true =>
          obtain ⟨hwa, hTa, h25a, h0a⟩ := hq54.2.1 hAa
          have hxna : ((sub 5 (tkE Y n x))).2.1 ≤ n := hPG hgf _ (tkE_le (Y := Y) hxn) 5
          refine x_aload_n (pc := 58) C 1 dX12_atom_58 rfl ?_
          refine x_bipush (pc := 59) (v := (nI 41)) C dX12_atom_59 (by decide) ?_
          refine x_callV (pc := 61) C E [.int (nI 41)] [] (c_X12_isSign t (M := M54) hTa h0a (s := 41) (by decide)) m_X12_isSign q17_9 xo_M rfl (by first | decide | omega) (Nat.le_of_ble_eq_true rfl) dX12_atom_61 rfl (k_I ?_)
          refine x_ifb_ne (pc := 64) C 71 dX12_atom_64 (by decide) (fun h64 => ?_) (fun h64 => ?_)
          · refine x_aload_n (pc := 71) C 1 dX12_atom_71 rfl ?_
            refine x_dup (pc := 72) C dX12_atom_72 rfl ?_
            refine g_M_open (pc := 73) C E q15_10 dX12_atom_73 ?_
            refine x_eq (show M54 0 25 = nI (5 - (g - 1)) from h25a) ?_
            refine x_iconst (pc := 76) (v := (nI 1)) C dX12_atom_76 (by decide) ?_
            refine x_isub (pc := 77) C dX12_atom_77 ?_
            refine x_eq (show (nI (5 - (g - 1))) - (nI 1) = nI (5 - g) from (by rw [pk_sub (by omega)]; congr 1; omega)) ?_
            refine p_M_open (pc := 78) C E q15_10 dX12_atom_78 ?_
            refine x_aload_n (pc := 81) C 1 dX12_atom_81 rfl ?_
            refine g_M_bad (pc := 82) C E q15_11 dX12_atom_82 ?_
            refine x_eq (show (mu M54 0 25 (nI (5 - g))) 0 26 = 0 from ((mu_k _ _ _ _ (by decide)).trans h0a)) ?_
            refine x_if_ne_f (pc := 85) C 161 dX12_atom_85 (by decide) (by decide) ?_
            refine x_aload_n (pc := 88) C 1 dX12_atom_88 rfl ?_
            have hTn89 : TkR Y n ((sub 5 (tkE Y n x)).2.1) (mu M54 0 25 (nI (5 - g))) := (tkr_fr hTa (fun b g1 g2 => by rw [mu_at, if_neg (by omega)]))
            have hRn89 : TR Y n q (mu M54 0 25 (nI (5 - g))) := (tr_sp (tr_sp hR hq54.1) (fun a b g => by rw [mu_at, if_neg (by omega)]))
            have hfn89 : Sp M (mu M54 0 25 (nI (5 - g))) := (hq54.1.tr (fun a b g => by rw [mu_at, if_neg (by omega)]))
            have h0n89 : (mu M54 0 25 (nI (5 - g))) 0 26 = 0 := (by rw [mu_at, if_neg (by omega)]; exact h0a)
            have hxn89 := tkE_le (Y := Y) hxna
            refine x_callV (pc := 89) C E [] [] (c_X12_next t (M := mu M54 0 25 (nI (5 - g))) hRn89 (x := tkE Y n ((sub 5 (tkE Y n x)).2.1)) (hTn89.2.2.1 (fun e => by rw [((rt_sign (by decide)).mp (of_decide_eq_true h64)).1] at e; exact absurd e (by decide))) hxn89) m_X12_next q15_13 xo_M rfl (by first | decide | omega) (Nat.le_of_ble_eq_true rfl) dX12_atom_89 rfl (fun r M89 hc89 => ?_)
            obtain ⟨rfl, hT89, hs89⟩ := hc89
            show XV κ (xP (wR t) M89) 92 _ []
            refine x_goto (pc := 92) C 161 dX12_atom_92 (by decide) ?_
            refine x_iload_n (pc := 161) C 0 dX12_atom_161 rfl ?_
            exact x_iret (pc := 162) C X dX12_atom_162 (by have eR : pOne Y n g0 sub x = (true, tkE Y n (sub 5 (tkE Y n x)).2.1, (sub 5 (tkE Y n x)).2.2.1, (sub 5 (tkE Y n x)).2.2.2) := (by unfold pOne; rw [if_neg (by rw [(show tkK Y n x = 40 from of_decide_eq_true h43)]; decide), if_neg (by rw [(show tkK Y n x = 40 from of_decide_eq_true h43)]; decide), if_neg (fun e => e.elim (fun e => e.1 (show tkK Y n x = 40 from of_decide_eq_true h43)) (fun e => by rw [hgf] at e; cases e)), if_pos (show tkK Y n x = 40 from of_decide_eq_true h43)]; unfold pCl; rw [if_neg (by rw [hAa]; decide), if_pos (show tkK Y n (sub 5 (tkE Y n x)).2.1 = 41 from of_decide_eq_true h64)]); rw [eR]; exact prf_ok (hfn89.tr hs89.sp) rfl hwa hT89 ((hs89 _ _ (by omega)).trans (mu_s _ _ _ _)) ((hs89 _ _ (by omega)).trans h0n89))
          · refine x_aload_n (pc := 67) C 1 dX12_atom_67 rfl ?_
            refine x_callV (pc := 68) C E [] [] (c_X12_fail t (M := M54) (p := tkP Y n ((sub 5 (tkE Y n x)).2.1)) hTa.1 h0a) m_X12_fail q16_16 xo_M rfl (by first | decide | omega) (Nat.le_of_ble_eq_true rfl) dX12_atom_68 rfl (k_U ?_)
            refine x_aload_n (pc := 71) C 1 dX12_atom_71 rfl ?_
            refine x_dup (pc := 72) C dX12_atom_72 rfl ?_
            refine g_M_open (pc := 73) C E q15_10 dX12_atom_73 ?_
            refine x_eq (show (mu (mu M54 0 26 1) 0 27 (nI (tkP Y n ((sub 5 (tkE Y n x)).2.1)))) 0 25 = nI (5 - (g - 1)) from ((mu_k _ _ _ _ (by decide)).trans ((mu_k _ _ _ _ (by decide)).trans h25a))) ?_
            refine x_iconst (pc := 76) (v := (nI 1)) C dX12_atom_76 (by decide) ?_
            refine x_isub (pc := 77) C dX12_atom_77 ?_
            refine x_eq (show (nI (5 - (g - 1))) - (nI 1) = nI (5 - g) from (by rw [pk_sub (by omega)]; congr 1; omega)) ?_
            refine p_M_open (pc := 78) C E q15_10 dX12_atom_78 ?_
            refine x_aload_n (pc := 81) C 1 dX12_atom_81 rfl ?_
            refine g_M_bad (pc := 82) C E q15_11 dX12_atom_82 ?_
            refine x_eq (show (mu (mu (mu M54 0 26 1) 0 27 (nI (tkP Y n ((sub 5 (tkE Y n x)).2.1)))) 0 25 (nI (5 - g))) 0 26 = 1 from ((mu_k _ _ _ _ (by decide)).trans ((mu_k _ _ _ _ (by decide)).trans (mu_s _ _ _ _)))) ?_
            refine x_if_ne_t (pc := 85) C 161 dX12_atom_85 (by decide) (by decide) ?_
            refine x_iload_n (pc := 161) C 0 dX12_atom_161 rfl ?_
            exact x_iret (pc := 162) C X dX12_atom_162 (by have eR : pOne Y n g0 sub x = pzF (sub 5 (tkE Y n x)).2.1 := (by unfold pOne; rw [if_neg (by rw [(show tkK Y n x = 40 from of_decide_eq_true h43)]; decide), if_neg (by rw [(show tkK Y n x = 40 from of_decide_eq_true h43)]; decide), if_neg (fun e => e.elim (fun e => e.1 (show tkK Y n x = 40 from of_decide_eq_true h43)) (fun e => by rw [hgf] at e; cases e)), if_pos (show tkK Y n x = 40 from of_decide_eq_true h43)]; unfold pCl; rw [if_neg (by rw [hAa]; decide), if_neg (show ¬ tkK Y n (sub 5 (tkE Y n x)).2.1 = 41 from of_decide_eq_false h64)]); rw [eR]; exact prf_bad (hq54.1.tr (fun a b hab => (by rw [mu_at, if_neg (by omega), mu_at, if_neg (by omega), mu_at, if_neg (by omega)]))) rfl ((mu_k _ _ _ _ (by decide)).trans ((mu_k _ _ _ _ (by decide)).trans (mu_s _ _ _ _))) ((mu_k _ _ _ _ (by decide)).trans (mu_s _ _ _ _)))
        
  · refine x_aload_n (pc := 11) C 1 dX12_atom_11 rfl ?_
    by_cases hg0 : g = 0
    · refine x_callV (pc := 12) C E [] [] (c_X12_opens5 t (M := M) hT h0 (by rw [h25, hg0])) m_X12_opens q17_14 xo_M rfl (by omega) (Nat.le_of_ble_eq_true rfl) dX12_atom_12 rfl (fun r M12 hc12 => ?_)
      obtain ⟨rfl, rfl⟩ := hc12
      have hgt : g0 = true := by rw [h0g]; exact decide_eq_true hg0
      show XV κ (xP (wR t) (mu (mu M 0 26 1) 0 27 (nI (tkP Y n x)))) 15 _ [.int (b2i false)]
      refine x_eq (show b2i false = 0 from rfl) ?_
      refine x_if_eq_t (pc := 15) C 161 dX12_atom_15 (by decide) (by decide) ?_
      refine x_iload_n (pc := 161) C 0 dX12_atom_161 rfl ?_
      exact x_iret (pc := 162) C X dX12_atom_162 (by have eR : pOne Y n g0 sub x = pzF x := (by unfold pOne; rw [if_neg (by rw [(show tkK Y n x = 45 from of_decide_eq_true h8)]; decide), if_neg (by rw [(show tkK Y n x = 45 from of_decide_eq_true h8)]; decide), if_pos (Or.inr hgt)]); rw [eR]; exact prf_bad (fun a b hab => (by rw [mu_at, if_neg (by omega), mu_at, if_neg (by omega)])) rfl ((mu_k _ _ _ _ (by decide)).trans (mu_s _ _ _ _)) (mu_s _ _ _ _))
    · refine x_callV (pc := 12) C E [] [] (c_X12_opens t (M := M) hR hT h0 hxn h25 (by omega) (fun e => by rw [((rt_sign (by decide)).mp (of_decide_eq_true h8)).1] at e; exact absurd e (by decide))) m_X12_opens q17_14 xo_M rfl (by omega) (Nat.le_of_ble_eq_true rfl) dX12_atom_12 rfl (fun r M12 hc12 => ?_)
      obtain ⟨rfl, hT12, g2512, h012, hf12⟩ := hc12
      have hgf : g0 = false := by rw [h0g]; exact decide_eq_false hg0
      have h2512 : M12 0 25 = nI (5 - (g - 1)) := g2512.trans (by congr 1; omega)
      show XV κ (xP (wR t) M12) 15 _ [.int (b2i true)]
      refine x_eq (show b2i true = 1 from rfl) ?_
      refine x_if_eq_f (pc := 15) C 161 dX12_atom_15 (by decide) (by decide) ?_
      refine x_aload_n (pc := 18) C 1 dX12_atom_18 rfl ?_
      refine x_callV (pc := 19) C E [] [] (hA hgf _ (tkE Y n x) (tr_sp hR hf12) hT12 h2512 h012 (tkE_le (Y := Y) hxn)) m_X12_atom q17_18 xo_M rfl (by omega) (Nat.le_of_ble_eq_true rfl) dX12_atom_19 rfl (fun r M19 hc19 => ?_)
      obtain ⟨w19, rfl, hp19⟩ := hc19
      have hq19 := prm_pre (Sp.rf.tr hf12) hp19
      show XV κ (xP (wR t) M19) 22 _ [.int w19]
      refine x_ineg (pc := 22) C dX12_atom_22 ?_
      refine x_istore_n (pc := 23) (L' := [(1, .int (-w19)), (0, .ref (t.1 0))]) C dX12_atom_23 (by decide) rfl ?_
      refine x_aload_n (pc := 24) C 1 dX12_atom_24 rfl ?_
      refine x_dup (pc := 25) C dX12_atom_25 rfl ?_
      refine g_M_open (pc := 26) C E q15_10 dX12_atom_26 ?_
      refine x_iconst (pc := 29) (v := (nI 1)) C dX12_atom_29 (by decide) ?_
      refine x_isub (pc := 30) C dX12_atom_30 ?_
      refine p_M_open (pc := 31) C E q15_10 dX12_atom_31 ?_
      refine x_goto (pc := 34) C 161 dX12_atom_34 (by decide) ?_
      refine x_iload_n (pc := 161) C 0 dX12_atom_161 rfl ?_
      exact x_iret (pc := 162) C X dX12_atom_162 (by have eR : pOne Y n g0 sub x = pNeg (sub 0 (tkE Y n x)) := (by unfold pOne; rw [if_neg (by rw [(show tkK Y n x = 45 from of_decide_eq_true h8)]; decide), if_neg (by rw [(show tkK Y n x = 45 from of_decide_eq_true h8)]; decide), if_neg (fun e => e.elim (fun e => e.2 (show tkK Y n x = 45 from of_decide_eq_true h8)) (fun e => by rw [hgf] at e; cases e)), if_neg (by rw [(show tkK Y n x = 45 from of_decide_eq_true h8)]; decide)]); rw [eR]; exact ⟨_, rfl, prm_dec (op := 5 - g) hq19 (by omega) rfl rfl (fun _ e => by rw [e]; rfl)⟩)

