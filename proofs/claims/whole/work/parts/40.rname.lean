theorem nmO_sp {A B : MM} (h : Sp A B) : nmO B = nmO A := by
  unfold nmO
  rw [h 0 13 (by omega), h 0 14 (by omega), h 0 15 (by omega), h 0 16 (by omega), h 0 17 (by omega), h 0 18 (by omega)]
theorem prm_pre {Y : Nat → Int32} {n op : Nat} {R : PR} {w : Int32} {A B D : MM} (hs : Sp A B) (h : PRm Y n op R w B D) : PRm Y n op R w A D := ⟨hs.tr h.1, fun hr => by rw [← nmO_sp hs]; exact h.2.1 hr, h.2.2⟩
theorem tkE_le {Y : Nat → Int32} {n x : Nat} (h : x ≤ n) : tkE Y n x ≤ n := by
  by_cases g : tkP Y n x < n
  · exact (tkE_lt h g).2
  · rw [(tk_end (by omega)).1]; exact (tkP_le h).2
theorem rt_num {Y : Nat → Int32} {n x : Nat} : tkK Y n x = 2 ↔ rtk Y n x = nI 2 := by
  unfold tkK rtk
  split
  · exact ⟨fun e => absurd e (by decide), fun e => absurd e (by decide)⟩
  · split
    · exact ⟨fun e => absurd e (wkK_ne (wdx_le _ _ _)).1, fun e => absurd e (by decide)⟩
    · split
      · split
        · exact ⟨fun e => absurd e (by decide), fun e => absurd e (by decide)⟩
        · exact ⟨fun _ => rfl, fun _ => rfl⟩
      · split
        · rename_i hs
          exact ⟨fun e => absurd e (cSgn_ne hs).1, fun e => absurd e (by decide)⟩
        · exact ⟨fun e => absurd e (by decide), fun e => absurd e (by decide)⟩
theorem rt_wk {Y : Nat → Int32} {n x : Nat} (h : rtk Y n x = nI 1) : tkK Y n x = wkK (wdx Y (tkP Y n x) (tkE Y n x)) ∧ tkV Y n x = nI (wdx Y (tkP Y n x) (tkE Y n x) - 6) := (tk_let (rt_1 h).1 (rt_1 h).2).2
theorem rt_3 {Y : Nat → Int32} {n x : Nat} (h : tkK Y n x = 3) : rtk Y n x = nI 1 := by
  obtain ⟨v, -, -, h2, -⟩ := tk_name h
  exact rt_let (tkP_lt (by rw [h]; decide)) h2
/-- which key stands there -/
theorem rt_key {Y : Nat → Int32} {n x j : Nat} (hj : j < 6) : (decide (rtk Y n x = nI 1) && wis Y (tkP Y n x) (tkE Y n x) j) = decide (tkK Y n x = nI (4 + j)) := by
  rw [wdx_iff (by omega)]
  have hk : ∀ w, w ≤ 12 → (wkK w = nI (4 + j) ↔ w = j) := by
    intro w hw
    unfold wkK
    have : ∀ j, j < 6 → ∀ w, w < 13 → ((if 12 ≤ w then (1 : Int32) else if 6 ≤ w then 3 else nI (4 + w)) = nI (4 + j) ↔ w = j) := by decide +kernel
    exact this j hj w (by omega)
  by_cases h : rtk Y n x = nI 1
  · rw [decide_eq_true h, Bool.true_and, (rt_wk h).1]
    by_cases g : wdx Y (tkP Y n x) (tkE Y n x) = j
    · rw [decide_eq_true g, decide_eq_true ((hk _ (wdx_le _ _ _)).mpr g)]
    · rw [decide_eq_false g, decide_eq_false (fun e => g ((hk _ (wdx_le _ _ _)).mp e))]
  · rw [decide_eq_false h, Bool.false_and, decide_eq_false]
    intro e
    apply h
    unfold tkK at e
    unfold rtk
    split at e
    · exfalso
      have : ∀ j, j < 6 → ¬ (0 : Int32) = nI (4 + j) := by decide +kernel
      exact this j hj e
    · rename_i h1
      rw [if_neg h1]
      split at e
      · rename_i h2; rw [if_pos h2]
      · exfalso
        have k1 : ∀ j, j < 6 → ¬ (1 : Int32) = nI (4 + j) := by decide +kernel
        have k2 : ∀ j, j < 6 → ¬ (2 : Int32) = nI (4 + j) := by decide +kernel
        have k3 : ∀ j, j < 6 → ¬ cSgn (nI (4 + j)) = true := by decide +kernel
        split at e
        · split at e
          · exact k1 j hj e
          · exact k2 j hj e
        · split at e
          · rename_i hs
            rw [e] at hs
            exact k3 j hj hs
          · exact k1 j hj e
theorem l2i2l (a : Int32) : Int64.toInt32 (Int32.toInt64 a) = a := by simp
set_option maxRecDepth 100000 in
set_option maxHeartbeats 800000 in
theorem c_X12_opens5 (t : CT) {M : MM} {Y : Nat → Int32} {n x : Nat} (hT : TkR Y n x M) (h0 : M 0 26 = 0) (h25 : M 0 25 = nI 5) : XMet (wR t) yX12_opens cX12_opens 1 (some .boolean) 3 [.ref (t.1 0)] M (fun r B => r = some (.int (b2i false)) ∧ B = mu (mu M 0 26 1) 0 27 (nI (tkP Y n x))) := by
  refine x_met RX12 (by decide) rfl (Nat.le_of_ble_eq_true rfl) (fun κ C X E => ?_)
  refine x_L (L' := [(0, .ref (t.1 0))]) rfl ?_
  refine x_aload_n (pc := 0) C 0 dX12_opens_0 rfl ?_
  refine g_M_open (pc := 1) C E q15_10 dX12_opens_1 ?_
  refine x_eq (show M 0 25 = nI 5 from h25) ?_
  refine x_iconst (pc := 4) (v := (nI 5)) C dX12_opens_4 (by decide) ?_
  refine x_icmp_ne_f (pc := 5) C 14 dX12_opens_5 (by decide) (by decide) ?_
  refine x_aload_n (pc := 8) C 0 dX12_opens_8 rfl ?_
  refine x_callV (pc := 9) C E [] [] (c_X12_fail t (M := M) (p := tkP Y n x) hT.1 h0) m_X12_fail q16_16 xo_M rfl (by first | decide | omega) (Nat.le_of_ble_eq_true rfl) dX12_opens_9 rfl (k_U ?_)
  refine x_iconst (pc := 12) (v := (nI 0)) C dX12_opens_12 (by decide) ?_
  exact x_bret (pc := 13) C X (b := false) rfl dX12_opens_13 ⟨rfl, rfl⟩

set_option maxRecDepth 100000 in
set_option maxHeartbeats 800000 in
theorem c_X12_opens (t : CT) {M : MM} {Y : Nat → Int32} {n q : Nat} (hR : TR Y n q M) {x : Nat} (hT : TkR Y n x M) (h0 : M 0 26 = 0) (hxn : x ≤ n) {op : Nat} (h25 : M 0 25 = nI op) (h5 : op < 5) (hne : rtk Y n x ≠ nI 4) : XMet (wR t) yX12_opens cX12_opens 1 (some .boolean) 3 [.ref (t.1 0)] M (fun r B => r = some (.int (b2i true)) ∧ TkR Y n (tkE Y n x) B ∧ B 0 25 = nI (op + 1) ∧ B 0 26 = 0 ∧ Sp M B) := by
  refine x_met RX12 (by decide) rfl (Nat.le_of_ble_eq_true rfl) (fun κ C X E => ?_)
  refine x_L (L' := [(0, .ref (t.1 0))]) rfl ?_
  have h160 := hR.1
  have hq6 := hR.2.1
  refine x_aload_n (pc := 0) C 0 dX12_opens_0 rfl ?_
  refine g_M_open (pc := 1) C E q15_10 dX12_opens_1 ?_
  refine x_eq (show M 0 25 = nI op from h25) ?_
  refine x_iconst (pc := 4) (v := (nI 5)) C dX12_opens_4 (by decide) ?_
  refine x_icmp_ne_t (pc := 5) C 14 dX12_opens_5 (by decide) (fun e => by rw [nI_eq (by omega) (by decide)] at e; omega) ?_
  refine x_aload_n (pc := 14) C 0 dX12_opens_14 rfl ?_
  refine x_dup (pc := 15) C dX12_opens_15 rfl ?_
  refine g_M_open (pc := 16) C E q15_10 dX12_opens_16 ?_
  refine x_eq (show M 0 25 = nI op from h25) ?_
  refine x_iconst (pc := 19) (v := (nI 1)) C dX12_opens_19 (by decide) ?_
  refine x_iadd (pc := 20) C dX12_opens_20 ?_
  refine x_eq (show (nI op) + (nI 1) = nI (op + 1) from nI_add _ _) ?_
  refine p_M_open (pc := 21) C E q15_10 dX12_opens_21 ?_
  refine x_aload_n (pc := 24) C 0 dX12_opens_24 rfl ?_
  have hTn25 : TkR Y n x (mu M 0 25 (nI (op + 1))) := (tkr_fr hT (fun b g1 g2 => by rw [mu_at, if_neg (by omega)]))
  have hRn25 : TR Y n q (mu M 0 25 (nI (op + 1))) := (tr_sp hR (fun a b g => by rw [mu_at, if_neg (by omega)]))
  have hfn25 : Sp M (mu M 0 25 (nI (op + 1))) := (Sp.rf.tr (fun a b g => by rw [mu_at, if_neg (by omega)]))
  have h0n25 : (mu M 0 25 (nI (op + 1))) 0 26 = 0 := (by rw [mu_at, if_neg (by omega)]; exact h0)
  have hxn25 := tkE_le (Y := Y) hxn
  refine x_callV (pc := 25) C E [] [] (c_X12_next t (M := mu M 0 25 (nI (op + 1))) hRn25 (x := tkE Y n x) (hTn25.2.2.1 hne) hxn25) m_X12_next q15_13 xo_M rfl (by first | decide | omega) (Nat.le_of_ble_eq_true rfl) dX12_opens_25 rfl (fun r M25 hc25 => ?_)
  obtain ⟨rfl, hT25, hs25⟩ := hc25
  show XV κ (xP (wR t) M25) 28 _ []
  refine x_iconst (pc := 28) (v := (nI 1)) C dX12_opens_28 (by decide) ?_
  exact x_bret (pc := 29) C X (b := true) rfl dX12_opens_29 ⟨rfl, hT25, ((hs25 _ _ (by omega)).trans (mu_s _ _ _ _)), ((hs25 _ _ (by omega)).trans h0n25), (hfn25.tr hs25.sp)⟩

set_option maxRecDepth 100000 in
set_option maxHeartbeats 800000 in
theorem c_X12_name (t : CT) {M : MM} {Y : Nat → Int32} {n q : Nat} (hR : TR Y n q M) {x : Nat} (hT : TkR Y n x M) (h0 : M 0 26 = 0) (hxn : x ≤ n) (hw : rtk Y n x = nI 1) : XMet (wR t) yX12_name cX12_name 1 (some .int) 4 [.ref (t.1 0)] M (fun r B => (tkK Y n x = 3 → r = some (.int (nmO M (tkV Y n x).toNatClampNeg)) ∧ B = M) ∧ (tkK Y n x ≠ 3 → r = some (.int (nI 0)) ∧ B = mu (mu M 0 26 1) 0 27 (nI (tkP Y n x)))) := by
  refine x_met RX12 (by decide) rfl (Nat.le_of_ble_eq_true rfl) (fun κ C X E => ?_)
  refine x_L (L' := [(0, .ref (t.1 0))]) rfl ?_
  have h160 := hR.1
  have hq6 := hR.2.1
  refine x_aload_n (pc := 0) C 0 dX12_name_0 rfl ?_
  refine x_bipush (pc := 1) (v := (nI 104)) C dX12_name_1 (by decide) ?_
  refine x_bipush (pc := 3) (v := (nI 101)) C dX12_name_3 (by decide) ?_
  refine x_bipush (pc := 5) (v := (nI 114)) C dX12_name_5 (by decide) ?_
  refine x_bipush (pc := 7) (v := (nI 101)) C dX12_name_7 (by decide) ?_
  refine x_iconst (pc := 9) (v := (nI 0)) C dX12_name_9 (by decide) ?_
  refine x_iconst (pc := 10) (v := (nI 0)) C dX12_name_10 (by decide) ?_
  refine x_iconst (pc := 11) (v := (nI 0)) C dX12_name_11 (by decide) ?_
  refine x_iconst (pc := 12) (v := (nI 0)) C dX12_name_12 (by decide) ?_
  refine x_callV (pc := 13) C E [.int (nI 104), .int (nI 101), .int (nI 114), .int (nI 101), .int (nI 0), .int (nI 0), .int (nI 0), .int (nI 0)] [] (c_X12_isWord t (M := M) hR hT h0 hxn (j := 6) (by decide)) m_X12_isWord q16_4 xo_M rfl (by first | decide | omega) (Nat.le_of_ble_eq_true rfl) dX12_name_13 rfl (k_I ?_)
  refine x_eq (show _ = b2i (decide (wdx Y (tkP Y n x) (tkE Y n x) = 6)) from (by rw [wdx_iff (by decide), decide_eq_true hw, Bool.true_and])) ?_
  refine x_ifb_eq (pc := 16) C 24 dX12_name_16 (by decide) (fun h16 => ?_) (fun h16 => ?_)
  · refine x_aload_n (pc := 24) C 0 dX12_name_24 rfl ?_
    refine x_bipush (pc := 25) (v := (nI 116)) C dX12_name_25 (by decide) ?_
    refine x_bipush (pc := 27) (v := (nI 104)) C dX12_name_27 (by decide) ?_
    refine x_bipush (pc := 29) (v := (nI 101)) C dX12_name_29 (by decide) ?_
    refine x_bipush (pc := 31) (v := (nI 114)) C dX12_name_31 (by decide) ?_
    refine x_bipush (pc := 33) (v := (nI 101)) C dX12_name_33 (by decide) ?_
    refine x_iconst (pc := 35) (v := (nI 0)) C dX12_name_35 (by decide) ?_
    refine x_iconst (pc := 36) (v := (nI 0)) C dX12_name_36 (by decide) ?_
    refine x_iconst (pc := 37) (v := (nI 0)) C dX12_name_37 (by decide) ?_
    refine x_callV (pc := 38) C E [.int (nI 116), .int (nI 104), .int (nI 101), .int (nI 114), .int (nI 101), .int (nI 0), .int (nI 0), .int (nI 0)] [] (c_X12_isWord t (M := M) hR hT h0 hxn (j := 7) (by decide)) m_X12_isWord q16_4 xo_M rfl (by first | decide | omega) (Nat.le_of_ble_eq_true rfl) dX12_name_38 rfl (k_I ?_)
    refine x_eq (show _ = b2i (decide (wdx Y (tkP Y n x) (tkE Y n x) = 7)) from (by rw [wdx_iff (by decide), decide_eq_true hw, Bool.true_and])) ?_
    refine x_ifb_eq (pc := 41) C 49 dX12_name_41 (by decide) (fun h41 => ?_) (fun h41 => ?_)
    · refine x_aload_n (pc := 49) C 0 dX12_name_49 rfl ?_
      refine x_bipush (pc := 50) (v := (nI 115)) C dX12_name_50 (by decide) ?_
      refine x_bipush (pc := 52) (v := (nI 97)) C dX12_name_52 (by decide) ?_
      refine x_bipush (pc := 54) (v := (nI 109)) C dX12_name_54 (by decide) ?_
      refine x_bipush (pc := 56) (v := (nI 101)) C dX12_name_56 (by decide) ?_
      refine x_iconst (pc := 58) (v := (nI 0)) C dX12_name_58 (by decide) ?_
      refine x_iconst (pc := 59) (v := (nI 0)) C dX12_name_59 (by decide) ?_
      refine x_iconst (pc := 60) (v := (nI 0)) C dX12_name_60 (by decide) ?_
      refine x_iconst (pc := 61) (v := (nI 0)) C dX12_name_61 (by decide) ?_
      refine x_callV (pc := 62) C E [.int (nI 115), .int (nI 97), .int (nI 109), .int (nI 101), .int (nI 0), .int (nI 0), .int (nI 0), .int (nI 0)] [] (c_X12_isWord t (M := M) hR hT h0 hxn (j := 8) (by decide)) m_X12_isWord q16_4 xo_M rfl (by first | decide | omega) (Nat.le_of_ble_eq_true rfl) dX12_name_62 rfl (k_I ?_)
      refine x_eq (show _ = b2i (decide (wdx Y (tkP Y n x) (tkE Y n x) = 8)) from (by rw [wdx_iff (by decide), decide_eq_true hw, Bool.true_and])) ?_
      refine x_ifb_eq (pc := 65) C 73 dX12_name_65 (by decide) (fun h65 => ?_) (fun h65 => ?_)
      · refine x_aload_n (pc := 73) C 0 dX12_name_73 rfl ?_
        refine x_bipush (pc := 74) (v := (nI 110)) C dX12_name_74 (by decide) ?_
        refine x_bipush (pc := 76) (v := (nI 117)) C dX12_name_76 (by decide) ?_
        refine x_bipush (pc := 78) (v := (nI 109)) C dX12_name_78 (by decide) ?_
        refine x_bipush (pc := 80) (v := (nI 98)) C dX12_name_80 (by decide) ?_
        refine x_bipush (pc := 82) (v := (nI 101)) C dX12_name_82 (by decide) ?_
        refine x_bipush (pc := 84) (v := (nI 114)) C dX12_name_84 (by decide) ?_
        refine x_iconst (pc := 86) (v := (nI 0)) C dX12_name_86 (by decide) ?_
        refine x_iconst (pc := 87) (v := (nI 0)) C dX12_name_87 (by decide) ?_
        refine x_callV (pc := 88) C E [.int (nI 110), .int (nI 117), .int (nI 109), .int (nI 98), .int (nI 101), .int (nI 114), .int (nI 0), .int (nI 0)] [] (c_X12_isWord t (M := M) hR hT h0 hxn (j := 9) (by decide)) m_X12_isWord q16_4 xo_M rfl (by first | decide | omega) (Nat.le_of_ble_eq_true rfl) dX12_name_88 rfl (k_I ?_)
        refine x_eq (show _ = b2i (decide (wdx Y (tkP Y n x) (tkE Y n x) = 9)) from (by rw [wdx_iff (by decide), decide_eq_true hw, Bool.true_and])) ?_
        refine x_ifb_eq (pc := 91) C 99 dX12_name_91 (by decide) (fun h91 => ?_) (fun h91 => ?_)
        · refine x_aload_n (pc := 99) C 0 dX12_name_99 rfl ?_
          refine x_bipush (pc := 100) (v := (nI 102)) C dX12_name_100 (by decide) ?_
          refine x_bipush (pc := 102) (v := (nI 105)) C dX12_name_102 (by decide) ?_
          refine x_bipush (pc := 104) (v := (nI 108)) C dX12_name_104 (by decide) ?_
          refine x_bipush (pc := 106) (v := (nI 101)) C dX12_name_106 (by decide) ?_
          refine x_iconst (pc := 108) (v := (nI 0)) C dX12_name_108 (by decide) ?_
          refine x_iconst (pc := 109) (v := (nI 0)) C dX12_name_109 (by decide) ?_
          refine x_iconst (pc := 110) (v := (nI 0)) C dX12_name_110 (by decide) ?_
          refine x_iconst (pc := 111) (v := (nI 0)) C dX12_name_111 (by decide) ?_
          refine x_callV (pc := 112) C E [.int (nI 102), .int (nI 105), .int (nI 108), .int (nI 101), .int (nI 0), .int (nI 0), .int (nI 0), .int (nI 0)] [] (c_X12_isWord t (M := M) hR hT h0 hxn (j := 10) (by decide)) m_X12_isWord q16_4 xo_M rfl (by first | decide | omega) (Nat.le_of_ble_eq_true rfl) dX12_name_112 rfl (k_I ?_)
          refine x_eq (show _ = b2i (decide (wdx Y (tkP Y n x) (tkE Y n x) = 10)) from (by rw [wdx_iff (by decide), decide_eq_true hw, Bool.true_and])) ?_
          refine x_ifb_eq (pc := 115) C 123 dX12_name_115 (by decide) (fun h115 => ?_) (fun h115 => ?_)
          · refine x_aload_n (pc := 123) C 0 dX12_name_123 rfl ?_
            refine x_bipush (pc := 124) (v := (nI 100)) C dX12_name_124 (by decide) ?_
            refine x_bipush (pc := 126) (v := (nI 97)) C dX12_name_126 (by decide) ?_
            refine x_bipush (pc := 128) (v := (nI 121)) C dX12_name_128 (by decide) ?_
            refine x_iconst (pc := 130) (v := (nI 0)) C dX12_name_130 (by decide) ?_
            refine x_iconst (pc := 131) (v := (nI 0)) C dX12_name_131 (by decide) ?_
            refine x_iconst (pc := 132) (v := (nI 0)) C dX12_name_132 (by decide) ?_
            refine x_iconst (pc := 133) (v := (nI 0)) C dX12_name_133 (by decide) ?_
            refine x_iconst (pc := 134) (v := (nI 0)) C dX12_name_134 (by decide) ?_
            refine x_callV (pc := 135) C E [.int (nI 100), .int (nI 97), .int (nI 121), .int (nI 0), .int (nI 0), .int (nI 0), .int (nI 0), .int (nI 0)] [] (c_X12_isWord t (M := M) hR hT h0 hxn (j := 11) (by decide)) m_X12_isWord q16_4 xo_M rfl (by first | decide | omega) (Nat.le_of_ble_eq_true rfl) dX12_name_135 rfl (k_I ?_)
            refine x_eq (show _ = b2i (decide (wdx Y (tkP Y n x) (tkE Y n x) = 11)) from (by rw [wdx_iff (by decide), decide_eq_true hw, Bool.true_and])) ?_
            refine x_ifb_eq (pc := 138) C 146 dX12_name_138 (by decide) (fun h138 => ?_) (fun h138 => ?_)
            · refine x_aload_n (pc := 146) C 0 dX12_name_146 rfl ?_
              refine x_callV (pc := 147) C E [] [] (c_X12_fail t (M := M) (p := tkP Y n x) hT.1 h0) m_X12_fail q16_16 xo_M rfl (by first | decide | omega) (Nat.le_of_ble_eq_true rfl) dX12_name_147 rfl (k_U ?_)
              refine x_iconst (pc := 150) (v := (nI 0)) C dX12_name_150 (by decide) ?_
              exact x_iret (pc := 151) C X dX12_name_151 ⟨fun e3 => absurd ((wkK_ne (wdx_le _ _ _)).2.2 ((rt_wk hw).1.symm.trans e3)) (by have z16 := of_decide_eq_false h16; have z41 := of_decide_eq_false h41; have z65 := of_decide_eq_false h65; have z91 := of_decide_eq_false h91; have z115 := of_decide_eq_false h115; have z138 := of_decide_eq_false h138; omega), fun _ => ⟨rfl, rfl⟩⟩
            · refine x_aload_n (pc := 141) C 0 dX12_name_141 rfl ?_
              refine g_M_ofDay (pc := 142) C E q15_1 dX12_name_142 ?_
              exact x_iret (pc := 145) C X dX12_name_145 ⟨fun _ => ⟨by rw [(rt_wk hw).2, of_decide_eq_true h138]; rfl, rfl⟩, fun e3 => absurd (by rw [(rt_wk hw).1, of_decide_eq_true h138]; rfl) e3⟩
          · refine x_aload_n (pc := 118) C 0 dX12_name_118 rfl ?_
            refine g_M_ofFile (pc := 119) C E q15_0 dX12_name_119 ?_
            exact x_iret (pc := 122) C X dX12_name_122 ⟨fun _ => ⟨by rw [(rt_wk hw).2, of_decide_eq_true h115]; rfl, rfl⟩, fun e3 => absurd (by rw [(rt_wk hw).1, of_decide_eq_true h115]; rfl) e3⟩
        · refine x_aload_n (pc := 94) C 0 dX12_name_94 rfl ?_
          refine g_M_ofNumber (pc := 95) C E q14_23 dX12_name_95 ?_
          exact x_iret (pc := 98) C X dX12_name_98 ⟨fun _ => ⟨by rw [(rt_wk hw).2, of_decide_eq_true h91]; rfl, rfl⟩, fun e3 => absurd (by rw [(rt_wk hw).1, of_decide_eq_true h91]; rfl) e3⟩
      · refine x_aload_n (pc := 68) C 0 dX12_name_68 rfl ?_
        refine g_M_ofSame (pc := 69) C E q14_22 dX12_name_69 ?_
        exact x_iret (pc := 72) C X dX12_name_72 ⟨fun _ => ⟨by rw [(rt_wk hw).2, of_decide_eq_true h65]; rfl, rfl⟩, fun e3 => absurd (by rw [(rt_wk hw).1, of_decide_eq_true h65]; rfl) e3⟩
    · refine x_aload_n (pc := 44) C 0 dX12_name_44 rfl ?_
      refine g_M_ofThere (pc := 45) C E q14_21 dX12_name_45 ?_
      exact x_iret (pc := 48) C X dX12_name_48 ⟨fun _ => ⟨by rw [(rt_wk hw).2, of_decide_eq_true h41]; rfl, rfl⟩, fun e3 => absurd (by rw [(rt_wk hw).1, of_decide_eq_true h41]; rfl) e3⟩
  · refine x_aload_n (pc := 19) C 0 dX12_name_19 rfl ?_
    refine g_M_ofHere (pc := 20) C E q14_20 dX12_name_20 ?_
    exact x_iret (pc := 23) C X dX12_name_23 ⟨fun _ => ⟨by rw [(rt_wk hw).2, of_decide_eq_true h16]; rfl, rfl⟩, fun e3 => absurd (by rw [(rt_wk hw).1, of_decide_eq_true h16]; rfl) e3⟩

