theorem rc_row {σ : SV} {M : MM} (h : RC σ M) {s k : Nat} (hs : s < 4) (hm : (sH σ s).1 ≠ -1) (hk : k < (sH σ s).2.1) : M (55 + 2 * s) k = (sH σ s).2.2 k := ((rc_sh h hs).2 hm).2 k hk
theorem rc_sz {σ : SV} {M : MM} (h : RC σ M) {s : Nat} (hs : s < 4) (hm : (sH σ s).1 ≠ -1) : M (54 + 2 * s) 2 = nI (sH σ s).2.1 := ((rc_sh h hs).2 hm).1
theorem nI_two (i : Nat) : nI 2 * nI i = nI (2 * i) := (Int32.ofNat_mul 2 i).symm
def tdG (σ : SV) (s i : Nat) : Nat → Bool
  | 0 => true
  | k + 1 => inB ((sH σ s).2.2 i) (vN (sV σ)) && tdG σ s (i + 1) k
def sTd (σ : SV) (s : Nat) : Bool := tdG σ s 0 (sH σ s).2.1
def cpF (σ : SV) (s i : Nat) (w : WV) : Nat → WV × Int32
  | 0 => (w, -1)
  | k + 1 => if two σ ((sH σ s).2.2 (2 * i)) ((sH σ s).2.2 (2 * i + 1)) && (vRd w (oN ((sH σ s).2.2 (2 * i))) && vRd w (oN ((sH σ s).2.2 (2 * i + 1)))) then cpF σ s (i + 1) (sCp σ w (oN ((sH σ s).2.2 (2 * i))) (oN ((sH σ s).2.2 (2 * i + 1)))).1 k else (w, nI i)
def sPl (σ : SV) (s : Nat) : WV × Int32 := cpF σ s 0 (sV σ) ((sH σ s).2.1 / 2)
def a_plan (σ : SV) (s w : Int32) : Int32 :=
  if inB s 4 = false ∨ inB w 3 = false then -2
  else if (sH σ (oN s)).1 = -1 then -11
  else if (sH σ (oN s)).2.1 % 2 ≠ 0 ∨ sTd σ (oN s) = false then -2
  else if w = 0 then (sPl σ (oN s)).2
  else if w = 1 then vSafe (sPl σ (oN s)).1 2 else mk (vDu (sPl σ (oN s)).1) 8
set_option maxRecDepth 100000 in
set_option maxHeartbeats 800000 in
theorem c_X11_tellsDisks (t : CT) {σ : SV} {M : MM} (h : RC σ M){s : Nat} (hs : s < 4) (hss : (sH σ s).1 ≠ -1) : XMet (wC t) yX11_tellsDisks cX11_tellsDisks 3 (some .boolean) 2 [.ref (t.1 0), .ref (t.1 (54 + 2 * s))] M (rI (b2i (sTd σ s)) M) := by
  refine x_met RX11 (by decide) rfl (Nat.le_of_ble_eq_true rfl) (fun κ C X E => ?_)
  refine x_L (L' := [(0, .ref (t.1 0)), (1, .ref (t.1 (54 + 2 * s)))]) rfl ?_
  have hn6 := rc_n6 h
  have hq6 := rc_q6 h
  have hq := rc_q h
  have hN6 := h.1.1
  have hB := h.1.2.1
  have hs40 := (h.1.2.2.2.2 s hs).1
  refine x_iconst (pc := 0) (v := (nI 0)) C dX11_tellsDisks_0 (by decide) ?_
  refine x_istore_n (pc := 1) (L' := [(2, .int (nI 0)), (0, .ref (t.1 0)), (1, .ref (t.1 (54 + 2 * s)))]) C dX11_tellsDisks_1 (by decide) rfl ?_
  have loop2 : ∀ (k i : Nat) (y : Int32) , i + k = (sH σ s).2.1 → y = nI i → tdG σ s i k = sTd σ s → XV κ (xP (wC t) M) 2 [(2, .int y), (0, .ref (t.1 0)), (1, .ref (t.1 (54 + 2 * s)))] [] := by
    intro k
    induction k with
      | zero =>
        intro i y  hcnt ey hg
        subst ey
        obtain rfl : (sH σ s).2.1 = i := by omega
        refine x_iload_n (pc := 2) C 0 dX11_tellsDisks_2 rfl ?_
        refine x_aload_n (pc := 3) C 2 dX11_tellsDisks_3 rfl ?_
        refine g_Sheet_size (pc := 4) C E hs q39_21 dX11_tellsDisks_4 ?_
        refine x_eq (show M (54 + 2 * s) 2 = nI (sH σ s).2.1 from rc_sz h hs hss) ?_
        refine x_icmp_ge_t (pc := 7) C 34 dX11_tellsDisks_7 (by decide) (nI_le (by omega) (by omega)) ?_
        refine x_iconst (pc := 34) (v := 1) C dX11_tellsDisks_34 rfl ?_
        exact x_bret (pc := 35) C X (b := true) rfl dX11_tellsDisks_35 (rI_b hg)
      | succ k ih =>
        intro i y  hcnt ey hg
        subst ey
        have hi2 : i < (sH σ s).2.1 := by omega
        refine x_iload_n (pc := 2) C 0 dX11_tellsDisks_2 rfl ?_
        refine x_aload_n (pc := 3) C 2 dX11_tellsDisks_3 rfl ?_
        refine g_Sheet_size (pc := 4) C E hs q39_21 dX11_tellsDisks_4 ?_
        refine x_eq (show M (54 + 2 * s) 2 = nI (sH σ s).2.1 from rc_sz h hs hss) ?_
        refine x_icmp_ge_f (pc := 7) C 34 dX11_tellsDisks_7 (by decide) (nI_ge (by omega) (by omega)) ?_
        refine x_aload_n (pc := 10) C 1 dX11_tellsDisks_10 rfl ?_
        refine g_main_now (pc := 11) C E q2_1 dX11_tellsDisks_11 ?_
        refine x_aload_n (pc := 14) C 2 dX11_tellsDisks_14 rfl ?_
        refine g_Sheet_row (pc := 15) C E hs q40_9 dX11_tellsDisks_15 ?_
        refine x_iload_n (pc := 18) C 0 dX11_tellsDisks_18 rfl ?_
        refine l_row (pc := 19) C E hs (by omega) dX11_tellsDisks_19 ?_
        refine x_eq (show M (55 + 2 * s) i = (sH σ s).2.2 i from rc_row h hs hss hi2) ?_
        refine x_callV (pc := 20) C E [.int ((sH σ s).2.2 i)] [] (w_has t (by decide : 0 < 3) h.2.1 _) m_X10_has q12_18 (xo_World (i := 0) (by omega)) rfl (by decide) (Nat.le_of_ble_eq_true rfl) dX11_tellsDisks_20 rfl (k_I ?_)
        refine x_ifb_ne (pc := 23) C 28 dX11_tellsDisks_23 (by decide) (fun h23 => ?_) (fun h23 => ?_)
        · refine x_iinc (pc := 28) (v := nI (i + 1)) (L' := [(2, .int (nI (i + 1))), (0, .ref (t.1 0)), (1, .ref (t.1 (54 + 2 * s)))]) C 0 dX11_tellsDisks_28 rfl (nI_1 _) (by decide) rfl ?_
          refine x_goto (pc := 31) C 2 dX11_tellsDisks_31 (by decide) ?_
          refine x_sub [0, 1, 2] rfl ?_
          exact ih (i + 1) _ (by omega) rfl (by rw [← hg, tdG, h23]; rfl)
        · refine x_iconst (pc := 26) (v := 0) C dX11_tellsDisks_26 rfl ?_
          exact x_bret (pc := 27) C X (b := false) rfl dX11_tellsDisks_27 (rI_b (hg.symm.trans (by rw [tdG, h23]; rfl)).symm)
  refine x_sub [0, 1, 2] rfl ?_
  exact loop2 _ 0 _ (by omega) rfl rfl

set_option maxRecDepth 100000 in
set_option maxHeartbeats 800000 in
theorem c_X11_copyInThought (t : CT) {σ : SV} {M : MM} (h : RC σ M){s : Nat} (hs : s < 4) (hss : (sH σ s).1 ≠ -1) (hV : VC 2 (sV σ) M) : XMet (wC t) yX11_copyInThought cX11_copyInThought 5 (some .int) 7 [.ref (t.1 0), .ref (t.1 (54 + 2 * s))] M (fun r M' => r = some (.int (sPl σ s).2) ∧ RC σ M' ∧ VC 2 (sPl σ s).1 M') := by
  refine x_met RX11 (by decide) rfl (Nat.le_of_ble_eq_true rfl) (fun κ C X E => ?_)
  refine x_L (L' := [(0, .ref (t.1 0)), (1, .ref (t.1 (54 + 2 * s)))]) rfl ?_
  have hn6 := rc_n6 h
  have hq6 := rc_q6 h
  have hq := rc_q h
  have hN6 := h.1.1
  have hB := h.1.2.1
  have hs40 := (h.1.2.2.2.2 s hs).1
  refine x_iconst (pc := 0) (v := (nI 0)) C dX11_copyInThought_0 (by decide) ?_
  refine x_istore_n (pc := 1) (L' := [(2, .int (nI 0)), (0, .ref (t.1 0)), (1, .ref (t.1 (54 + 2 * s)))]) C dX11_copyInThought_1 (by decide) rfl ?_
  have loop2 : ∀ (k i : Nat) (y : Int32) (Mx : MM) (w : WV), i + k = (sH σ s).2.1 / 2 → y = nI i → RC σ Mx → VC 2 w Mx → vN w = vN (sV σ) → cpF σ s i w k = sPl σ s → XV κ (xP (wC t) Mx) 2 [(2, .int y), (0, .ref (t.1 0)), (1, .ref (t.1 (54 + 2 * s)))] [] := by
    intro k
    induction k with
      | zero =>
        intro i y Mx w hcnt ey eMx hVw hwn hg
        subst ey
        obtain rfl : (sH σ s).2.1 / 2 = i := by omega
        refine x_iconst (pc := 2) (v := (nI 2)) C dX11_copyInThought_2 (by decide) ?_
        refine x_iload_n (pc := 3) C 0 dX11_copyInThought_3 rfl ?_
        refine x_imul (pc := 4) C dX11_copyInThought_4 ?_
        refine x_eq (show (nI 2) * (nI ((sH σ s).2.1 / 2)) = nI (2 * ((sH σ s).2.1 / 2)) from nI_two _) ?_
        refine x_iconst (pc := 5) (v := (nI 1)) C dX11_copyInThought_5 (by decide) ?_
        refine x_iadd (pc := 6) C dX11_copyInThought_6 ?_
        refine x_eq (show (nI (2 * ((sH σ s).2.1 / 2))) + (nI 1) = nI (2 * ((sH σ s).2.1 / 2) + 1) from nI_add _ _) ?_
        refine x_aload_n (pc := 7) C 2 dX11_copyInThought_7 rfl ?_
        refine g_Sheet_size (pc := 8) C E hs q39_21 dX11_copyInThought_8 ?_
        refine x_eq (show Mx (54 + 2 * s) 2 = nI (sH σ s).2.1 from rc_sz eMx hs hss) ?_
        refine x_icmp_ge_t (pc := 11) C 81 dX11_copyInThought_11 (by decide) (nI_le (by omega) (by omega)) ?_
        refine x_iconst (pc := 81) (v := (-1)) C dX11_copyInThought_81 rfl ?_
        exact x_iret (pc := 82) C X dX11_copyInThought_82 ⟨by rw [← hg]; rfl, eMx, by rw [← hg]; exact hVw⟩
      | succ k ih =>
        intro i y Mx w hcnt ey eMx hVw hwn hg
        subst ey
        have hi2 : i < (sH σ s).2.1 / 2 := by omega
        refine x_iconst (pc := 2) (v := (nI 2)) C dX11_copyInThought_2 (by decide) ?_
        refine x_iload_n (pc := 3) C 0 dX11_copyInThought_3 rfl ?_
        refine x_imul (pc := 4) C dX11_copyInThought_4 ?_
        refine x_eq (show (nI 2) * (nI i) = nI (2 * i) from nI_two _) ?_
        refine x_iconst (pc := 5) (v := (nI 1)) C dX11_copyInThought_5 (by decide) ?_
        refine x_iadd (pc := 6) C dX11_copyInThought_6 ?_
        refine x_eq (show (nI (2 * i)) + (nI 1) = nI (2 * i + 1) from nI_add _ _) ?_
        refine x_aload_n (pc := 7) C 2 dX11_copyInThought_7 rfl ?_
        refine g_Sheet_size (pc := 8) C E hs q39_21 dX11_copyInThought_8 ?_
        refine x_eq (show Mx (54 + 2 * s) 2 = nI (sH σ s).2.1 from rc_sz eMx hs hss) ?_
        refine x_icmp_ge_f (pc := 11) C 81 dX11_copyInThought_11 (by decide) (nI_ge (by omega) (by omega)) ?_
        refine x_aload_n (pc := 14) C 2 dX11_copyInThought_14 rfl ?_
        refine g_Sheet_row (pc := 15) C E hs q40_9 dX11_copyInThought_15 ?_
        refine x_iconst (pc := 18) (v := (nI 2)) C dX11_copyInThought_18 (by decide) ?_
        refine x_iload_n (pc := 19) C 0 dX11_copyInThought_19 rfl ?_
        refine x_imul (pc := 20) C dX11_copyInThought_20 ?_
        refine x_eq (show (nI 2) * (nI i) = nI (2 * i) from nI_two i) ?_
        refine l_row (pc := 21) C E hs (by omega) dX11_copyInThought_21 ?_
        refine x_eq (show Mx (55 + 2 * s) (2 * i) = (sH σ s).2.2 (2 * i) from rc_row eMx hs hss (by omega)) ?_
        refine x_istore_n (pc := 22) (L' := [(3, .int ((sH σ s).2.2 (2 * i))), (2, .int (nI i)), (0, .ref (t.1 0)), (1, .ref (t.1 (54 + 2 * s)))]) C dX11_copyInThought_22 (by decide) rfl ?_
        refine x_aload_n (pc := 23) C 3 dX11_copyInThought_23 rfl ?_
        refine g_Sheet_row (pc := 24) C E hs q40_9 dX11_copyInThought_24 ?_
        refine x_iconst (pc := 27) (v := (nI 2)) C dX11_copyInThought_27 (by decide) ?_
        refine x_iload_n (pc := 28) C 1 dX11_copyInThought_28 rfl ?_
        refine x_imul (pc := 29) C dX11_copyInThought_29 ?_
        refine x_eq (show (nI 2) * (nI i) = nI (2 * i) from nI_two i) ?_
        refine x_iconst (pc := 30) (v := (nI 1)) C dX11_copyInThought_30 (by decide) ?_
        refine x_iadd (pc := 31) C dX11_copyInThought_31 ?_
        refine x_eq (show (nI (2 * i)) + (nI 1) = nI (2 * i + 1) from nI_add _ _) ?_
        refine l_row (pc := 32) C E hs (by omega) dX11_copyInThought_32 ?_
        refine x_eq (show Mx (55 + 2 * s) (2 * i + 1) = (sH σ s).2.2 (2 * i + 1) from rc_row eMx hs hss (by omega)) ?_
        refine x_istore (pc := 33) (L' := [(4, .int ((sH σ s).2.2 (2 * i + 1))), (3, .int ((sH σ s).2.2 (2 * i))), (2, .int (nI i)), (0, .ref (t.1 0)), (1, .ref (t.1 (54 + 2 * s)))]) C dX11_copyInThought_33 (by decide) rfl ?_
        refine x_aload_n (pc := 35) C 3 dX11_copyInThought_35 rfl ?_
        refine x_iload_n (pc := 36) C 1 dX11_copyInThought_36 rfl ?_
        refine x_iload (pc := 37) C 0 dX11_copyInThought_37 rfl ?_
        refine x_callV (pc := 39) C E [.int ((sH σ s).2.2 (2 * i)), .int ((sH σ s).2.2 (2 * i + 1))] [] ( c_X11_areTwo t eMx _ _) m_X11_areTwo q29_16 xo_main rfl (by decide) (Nat.le_of_ble_eq_true rfl) dX11_copyInThought_39 rfl (k_I ?_)
        refine x_ifb_eq (pc := 42) C 58 dX11_copyInThought_42 (by decide) (fun h42 => ?_) (fun h42 => ?_)
        · refine x_iload_n (pc := 58) C 2 dX11_copyInThought_58 rfl ?_
          exact x_iret (pc := 59) C X dX11_copyInThought_59 ⟨by rw [← hg]; rw [cpF, if_neg (by simp [h42])], eMx, by rw [← hg]; rw [cpF, if_neg (by simp [h42])]; exact hVw⟩
        · have htw := h42
          unfold two at htw
          rw [Bool.and_eq_true, Bool.and_eq_true] at htw
          obtain ⟨⟨hta, htb⟩, htc⟩ := htw
          obtain ⟨a, ha, ea⟩ := inB_of hta (by omega)
          obtain ⟨b, hb, eb⟩ := inB_of htb (by omega)
          have hoa := oN_nI (n := a) (by omega)
          have hob := oN_nI (n := b) (by omega)
          rw [ea, eb] at h42
          refine x_aload_n (pc := 45) C 3 dX11_copyInThought_45 rfl ?_
          refine g_main_thought (pc := 46) C E q2_3 dX11_copyInThought_46 ?_
          refine x_iload_n (pc := 49) C 1 dX11_copyInThought_49 rfl ?_
          refine x_eq (show (sH σ s).2.2 (2 * i) = nI a from ea) ?_
          refine x_iload (pc := 50) C 0 dX11_copyInThought_50 rfl ?_
          refine x_eq (show (sH σ s).2.2 (2 * i + 1) = nI b from eb) ?_
          refine x_callV (pc := 52) C E [.int (nI a), .int (nI b)] [] (w_canCopy t (by decide : 2 < 3) hVw (by omega) (by omega)) m_X10_canCopy q29_20 (xo_World (i := 2) (by omega)) rfl (by decide) (Nat.le_of_ble_eq_true rfl) dX11_copyInThought_52 rfl (k_I ?_)
          refine x_ifb_ne (pc := 55) C 60 dX11_copyInThought_55 (by decide) (fun h55 => ?_) (fun h55 => ?_)
          · refine x_aload_n (pc := 60) C 3 dX11_copyInThought_60 rfl ?_
            refine g_main_thought (pc := 61) C E q2_3 dX11_copyInThought_61 ?_
            refine x_iload_n (pc := 64) C 1 dX11_copyInThought_64 rfl ?_
            refine x_eq (show (sH σ s).2.2 (2 * i) = nI a from ea) ?_
            refine x_iload (pc := 65) C 0 dX11_copyInThought_65 rfl ?_
            refine x_eq (show (sH σ s).2.2 (2 * i + 1) = nI b from eb) ?_
            refine x_aload_n (pc := 67) C 3 dX11_copyInThought_67 rfl ?_
            refine x_callV (pc := 68) C E [] [.int (nI b), .int (nI a), .ref (t.1 (7 + 2))] (c_X11_rule t eMx) m_X11_rule q23_15 xo_main rfl (by decide) (Nat.le_of_ble_eq_true rfl) dX11_copyInThought_68 rfl (k_A ?_)
            refine x_callV (pc := 71) C E [.int (nI a), .int (nI b), .ref (t.1 (19 + 5 * (vR (sV σ))))] [] (c_copyT t eMx hVw (a := a) (b := b) (by omega) (by omega) (rc_q eMx)) m_X10_copyOnto q30_2 (xo_World (i := 2) (by omega)) rfl (by decide) (Nat.le_of_ble_eq_true rfl) dX11_copyInThought_71 rfl (fun r M71 hc71 => ?_)
            rw [sCp_eq] at hc71
            obtain ⟨rfl, hR71, hV71, hO71⟩ := hc71
            show XV κ (xP (wC t) M71) 74 _ [.int (nI (sCp σ w a b).2)]
            refine x_pop (pc := 74) C dX11_copyInThought_74 rfl ?_
            refine x_iinc (pc := 75) (v := nI (i + 1)) (L' := [(2, .int (nI (i + 1))), (4, .int ((sH σ s).2.2 (2 * i + 1))), (3, .int ((sH σ s).2.2 (2 * i))), (0, .ref (t.1 0)), (1, .ref (t.1 (54 + 2 * s)))]) C 2 dX11_copyInThought_75 rfl (nI_1 _) (by decide) rfl ?_
            refine x_goto (pc := 78) C 2 dX11_copyInThought_78 (by decide) ?_
            refine x_sub [0, 3, 4] rfl ?_
            exact ih (i + 1) _ _ _ (by omega) rfl hR71 hV71 ((sCp_rest σ w a b).1.trans hwn) (Eq.trans (Eq.symm (by rw [cpF, ea, eb, hoa, hob, if_pos (by rw [h42, h55]; rfl)])) hg)
          · refine x_iload_n (pc := 58) C 2 dX11_copyInThought_58 rfl ?_
            exact x_iret (pc := 59) C X dX11_copyInThought_59 ⟨by rw [← hg]; rw [cpF, ea, eb, hoa, hob, if_neg (by simp [h42, h55])], eMx, by rw [← hg]; rw [cpF, ea, eb, hoa, hob, if_neg (by simp [h42, h55])]; exact hVw⟩
  refine x_sub [0, 1, 2] rfl ?_
  exact loop2 ((sH σ s).2.1 / 2) 0 _ _ (sV σ) (by omega) rfl h hV rfl rfl

set_option maxRecDepth 100000 in
set_option maxHeartbeats 800000 in
theorem c_X11_plan (t : CT) {σ : SV} {M : MM} (h : RC σ M)(x1 x2 : Int32) : XMet (wC t) yX11_plan cX11_plan 5 (some .int) 8 [.ref (t.1 0), .int x1, .int x2] M (aR σ (a_plan σ x1 x2)) := by
  refine x_met RX11 (by decide) rfl (Nat.le_of_ble_eq_true rfl) (fun κ C X E => ?_)
  refine x_L (L' := [(0, .ref (t.1 0)), (1, .int x1), (2, .int x2)]) rfl ?_
  have hn6 := rc_n6 h
  have hq6 := rc_q6 h
  have hq := rc_q h
  have hN6 := h.1.1
  have hB := h.1.2.1
  refine x_iload_n (pc := 0) C 1 dX11_plan_0 rfl ?_
  refine x_callS (pc := 1) C E [.int x1] [] (c_X11_isSheet t _ _) m_X11_isSheet q39_22 rfl (by decide) (Nat.le_of_ble_eq_true rfl) dX11_plan_1 rfl (k_I ?_)
  refine x_ifb_eq (pc := 4) C 16 dX11_plan_4 (by decide) (fun h4 => ?_) (fun h4 => ?_)
  · refine x_bipush (pc := 16) (v := (-2)) C dX11_plan_16 rfl ?_
    exact x_iret (pc := 18) C X dX11_plan_18 (fia (by
          unfold a_plan
          repeat (first | with_reducible rfl | (refine (if_pos ?_).trans ?_; ((try simp only [inB_t, inB_f, i_lt, i_le, i_eq, ne_eq, Bool.not_eq_true, Bool.not_eq_false, hpB, decide_eq_true_eq, decide_eq_false_iff_not, li_0, li_1, li_2, li_3, li_4, li_5, li_6, li_7, li_8, li_9, li_10, li_20, li_40, li_99, li_100, li_255, li_899, li_999, li_m1, li_m2, li_m3, li_m4, li_m11, li_m12, li_m13, li_m14, li_m100] at h4 ⊢) <;> omega)) | (refine (if_neg ?_).trans ?_; ((try simp only [inB_t, inB_f, i_lt, i_le, i_eq, ne_eq, Bool.not_eq_true, Bool.not_eq_false, hpB, decide_eq_true_eq, decide_eq_false_iff_not, li_0, li_1, li_2, li_3, li_4, li_5, li_6, li_7, li_8, li_9, li_10, li_20, li_40, li_99, li_100, li_255, li_899, li_999, li_m1, li_m2, li_m3, li_m4, li_m11, li_m12, li_m13, li_m14, li_m100] at h4 ⊢) <;> omega)) | fail)
          all_goals (first | with_reducible rfl | (exfalso; ((try simp only [inB_t, inB_f, i_lt, i_le, i_eq, ne_eq, Bool.not_eq_true, Bool.not_eq_false, hpB, decide_eq_true_eq, decide_eq_false_iff_not, li_0, li_1, li_2, li_3, li_4, li_5, li_6, li_7, li_8, li_9, li_10, li_20, li_40, li_99, li_100, li_255, li_899, li_999, li_m1, li_m2, li_m3, li_m4, li_m11, li_m12, li_m13, li_m14, li_m100] at h4 ⊢) <;> omega)))) h)
  · obtain ⟨s, hs, es⟩ := inB_of h4 (by omega)
    have hts := nI_toInt (n := s) (by omega)
    have hos := oN_nI (n := s) (by omega)
    subst es
    refine x_iload_n (pc := 7) C 2 dX11_plan_7 rfl ?_
    refine x_if_lt (pc := 8) C 16 dX11_plan_8 (by decide) (fun h8 => ?_) (fun h8 => ?_)
    · refine x_bipush (pc := 16) (v := (-2)) C dX11_plan_16 rfl ?_
      exact x_iret (pc := 18) C X dX11_plan_18 (fia (by
            unfold a_plan
            simp only [hos]
            repeat (first | with_reducible rfl | (refine (if_pos ?_).trans ?_; ((try simp only [inB_t, inB_f, i_lt, i_le, i_eq, ne_eq, Bool.not_eq_true, Bool.not_eq_false, hpB, decide_eq_true_eq, decide_eq_false_iff_not, li_0, li_1, li_2, li_3, li_4, li_5, li_6, li_7, li_8, li_9, li_10, li_20, li_40, li_99, li_100, li_255, li_899, li_999, li_m1, li_m2, li_m3, li_m4, li_m11, li_m12, li_m13, li_m14, li_m100] at h4 hts h8 ⊢) <;> omega)) | (refine (if_neg ?_).trans ?_; ((try simp only [inB_t, inB_f, i_lt, i_le, i_eq, ne_eq, Bool.not_eq_true, Bool.not_eq_false, hpB, decide_eq_true_eq, decide_eq_false_iff_not, li_0, li_1, li_2, li_3, li_4, li_5, li_6, li_7, li_8, li_9, li_10, li_20, li_40, li_99, li_100, li_255, li_899, li_999, li_m1, li_m2, li_m3, li_m4, li_m11, li_m12, li_m13, li_m14, li_m100] at h4 hts h8 ⊢) <;> omega)) | fail)
            all_goals (first | with_reducible rfl | (exfalso; ((try simp only [inB_t, inB_f, i_lt, i_le, i_eq, ne_eq, Bool.not_eq_true, Bool.not_eq_false, hpB, decide_eq_true_eq, decide_eq_false_iff_not, li_0, li_1, li_2, li_3, li_4, li_5, li_6, li_7, li_8, li_9, li_10, li_20, li_40, li_99, li_100, li_255, li_899, li_999, li_m1, li_m2, li_m3, li_m4, li_m11, li_m12, li_m13, li_m14, li_m100] at h4 hts h8 ⊢) <;> omega)))) h)
    · refine x_iload_n (pc := 11) C 2 dX11_plan_11 rfl ?_
      refine x_iconst (pc := 12) (v := 2) C dX11_plan_12 rfl ?_
      refine x_icmp_le (pc := 13) C 19 dX11_plan_13 (by decide) (fun h13 => ?_) (fun h13 => ?_)
      · refine x_aload_n (pc := 19) C 0 dX11_plan_19 rfl ?_
        refine g_main_sheets (pc := 20) C E q1_17 dX11_plan_20 ?_
        refine x_iload_n (pc := 23) C 1 dX11_plan_23 rfl ?_
        refine l_sheets (pc := 24) C E (by omega) dX11_plan_24 ?_
        refine x_astore_n (pc := 25) (L' := [(3, .ref (t.1 (54 + 2 * s))), (0, .ref (t.1 0)), (1, .int (nI s)), (2, .int x2)]) C dX11_plan_25 (by decide) rfl ?_
        refine x_aload_n (pc := 26) C 0 dX11_plan_26 rfl ?_
        refine x_callV (pc := 27) C E [] [] ( w_isMissing t h (by omega)) m_X8_isMissing q40_1 (xo_Sheet (by omega)) rfl (by decide) (Nat.le_of_ble_eq_true rfl) dX11_plan_27 rfl (k_I ?_)
        refine x_ifb_eq (pc := 30) C 36 dX11_plan_30 (by decide) (fun h30 => ?_) (fun h30 => ?_)
        · have hss : (sH σ s).1 ≠ -1 := of_decide_eq_false h30
          have hs40 := (h.1.2.2.2.2 s hs).1
          have ht2 := nI_toInt (n := (sH σ s).2.1 % 2) (by omega)
          refine x_aload_n (pc := 36) C 0 dX11_plan_36 rfl ?_
          refine g_Sheet_size (pc := 37) C E (by omega) q39_21 dX11_plan_37 ?_
          refine x_eq (show M (54 + 2 * s) 2 = nI (sH σ s).2.1 from rc_sz h hs hss) ?_
          refine x_iconst (pc := 40) (v := 2) C dX11_plan_40 rfl ?_
          refine x_irem (pc := 41) C dX11_plan_41 (by decide) ?_
          refine x_eq (show (nI (sH σ s).2.1) - (nI (sH σ s).2.1) / 2 * 2 = nI ((sH σ s).2.1 % 2) from (pk_rem (d := 2) (by omega) (by decide) (by decide))) ?_
          refine x_if_ne (pc := 42) C 53 dX11_plan_42 (by decide) (fun h42 => ?_) (fun h42 => ?_)
          · refine x_bipush (pc := 53) (v := (-2)) C dX11_plan_53 rfl ?_
            exact x_iret (pc := 55) C X dX11_plan_55 (fia (by
                  unfold a_plan
                  simp only [hos]
                  repeat (first | with_reducible rfl | (refine (if_pos ?_).trans ?_; ((try simp only [inB_t, inB_f, i_lt, i_le, i_eq, ne_eq, Bool.not_eq_true, Bool.not_eq_false, hpB, decide_eq_true_eq, decide_eq_false_iff_not, li_0, li_1, li_2, li_3, li_4, li_5, li_6, li_7, li_8, li_9, li_10, li_20, li_40, li_99, li_100, li_255, li_899, li_999, li_m1, li_m2, li_m3, li_m4, li_m11, li_m12, li_m13, li_m14, li_m100] at h4 hts h8 h13 h30 ht2 h42 ⊢) <;> omega)) | (refine (if_neg ?_).trans ?_; ((try simp only [inB_t, inB_f, i_lt, i_le, i_eq, ne_eq, Bool.not_eq_true, Bool.not_eq_false, hpB, decide_eq_true_eq, decide_eq_false_iff_not, li_0, li_1, li_2, li_3, li_4, li_5, li_6, li_7, li_8, li_9, li_10, li_20, li_40, li_99, li_100, li_255, li_899, li_999, li_m1, li_m2, li_m3, li_m4, li_m11, li_m12, li_m13, li_m14, li_m100] at h4 hts h8 h13 h30 ht2 h42 ⊢) <;> omega)) | fail)
                  all_goals (first | with_reducible rfl | (exfalso; ((try simp only [inB_t, inB_f, i_lt, i_le, i_eq, ne_eq, Bool.not_eq_true, Bool.not_eq_false, hpB, decide_eq_true_eq, decide_eq_false_iff_not, li_0, li_1, li_2, li_3, li_4, li_5, li_6, li_7, li_8, li_9, li_10, li_20, li_40, li_99, li_100, li_255, li_899, li_999, li_m1, li_m2, li_m3, li_m4, li_m11, li_m12, li_m13, li_m14, li_m100] at h4 hts h8 h13 h30 ht2 h42 ⊢) <;> omega)))) h)
          · refine x_aload_n (pc := 45) C 1 dX11_plan_45 rfl ?_
            refine x_aload_n (pc := 46) C 0 dX11_plan_46 rfl ?_
            refine x_callV (pc := 47) C E [.ref (t.1 (54 + 2 * s))] [] (c_X11_tellsDisks t h hs hss) m_X11_tellsDisks q40_5 xo_main rfl (by decide) (Nat.le_of_ble_eq_true rfl) dX11_plan_47 rfl (k_I ?_)
            refine x_ifb_ne (pc := 50) C 56 dX11_plan_50 (by decide) (fun h50 => ?_) (fun h50 => ?_)
            · refine x_aload_n (pc := 56) C 1 dX11_plan_56 rfl ?_
              refine g_main_thought (pc := 57) C E q2_3 dX11_plan_57 ?_
              refine x_aload_n (pc := 60) C 1 dX11_plan_60 rfl ?_
              refine g_main_now (pc := 61) C E q2_1 dX11_plan_61 ?_
              refine x_callV (pc := 64) C E [.ref (t.1 (7 + 0))] [] (c_think t h) m_X10_become q36_4 (xo_World (i := 2) (by omega)) rfl (by decide) (Nat.le_of_ble_eq_true rfl) dX11_plan_64 rfl (fun r M64 hc64 => ?_)
              obtain ⟨rfl, hR64, hV64, hO64⟩ := hc64
              show XV κ (xP (wC t) M64) 67 _ []
              refine x_aload_n (pc := 67) C 1 dX11_plan_67 rfl ?_
              refine x_aload_n (pc := 68) C 0 dX11_plan_68 rfl ?_
              refine x_callV (pc := 69) C E [.ref (t.1 (54 + 2 * s))] [] (c_X11_copyInThought t hR64 hs hss hV64) m_X11_copyInThought q40_10 xo_main rfl (by decide) (Nat.le_of_ble_eq_true rfl) dX11_plan_69 rfl (fun r M69 hc69 => ?_)
              obtain ⟨rfl, hR69, hV69⟩ := hc69
              show XV κ (xP (wC t) M69) 72 _ [.int ((sPl σ s).2)]
              refine x_istore (pc := 72) (L' := [(4, .int ((sPl σ s).2)), (3, .ref (t.1 (54 + 2 * s))), (0, .ref (t.1 0)), (1, .int (nI s)), (2, .int x2)]) C dX11_plan_72 (by decide) rfl ?_
              refine x_iload_n (pc := 74) C 4 dX11_plan_74 rfl ?_
              refine x_if_ne (pc := 75) C 81 dX11_plan_75 (by decide) (fun h75 => ?_) (fun h75 => ?_)
              · refine x_iload_n (pc := 81) C 4 dX11_plan_81 rfl ?_
                refine x_iconst (pc := 82) (v := 1) C dX11_plan_82 rfl ?_
                refine x_icmp_ne (pc := 83) C 97 dX11_plan_83 (by decide) (fun h83 => ?_) (fun h83 => ?_)
                · refine x_aload_n (pc := 97) C 2 dX11_plan_97 rfl ?_
                  refine g_main_thought (pc := 98) C E q2_3 dX11_plan_98 ?_
                  refine x_callV (pc := 101) C E [] [] (w_differing t (by decide : 2 < 3) hV69 ) m_X10_differing q33_6 (xo_World (i := 2) (by omega)) rfl (by decide) (Nat.le_of_ble_eq_true rfl) dX11_plan_101 rfl (k_I ?_)
                  exact x_iret (pc := 104) C X dX11_plan_104 (fia (by
                        unfold a_plan
                        simp only [hos, h50, Bool.true_eq_false, or_false]
                        repeat (first | with_reducible rfl | (refine (if_pos ?_).trans ?_; ((try simp only [inB_t, inB_f, i_lt, i_le, i_eq, ne_eq, Bool.not_eq_true, Bool.not_eq_false, hpB, decide_eq_true_eq, decide_eq_false_iff_not, li_0, li_1, li_2, li_3, li_4, li_5, li_6, li_7, li_8, li_9, li_10, li_20, li_40, li_99, li_100, li_255, li_899, li_999, li_m1, li_m2, li_m3, li_m4, li_m11, li_m12, li_m13, li_m14, li_m100] at h4 hts h8 h13 h30 ht2 h42 h50 h75 h83 ⊢) <;> omega)) | (refine (if_neg ?_).trans ?_; ((try simp only [inB_t, inB_f, i_lt, i_le, i_eq, ne_eq, Bool.not_eq_true, Bool.not_eq_false, hpB, decide_eq_true_eq, decide_eq_false_iff_not, li_0, li_1, li_2, li_3, li_4, li_5, li_6, li_7, li_8, li_9, li_10, li_20, li_40, li_99, li_100, li_255, li_899, li_999, li_m1, li_m2, li_m3, li_m4, li_m11, li_m12, li_m13, li_m14, li_m100] at h4 hts h8 h13 h30 ht2 h42 h50 h75 h83 ⊢) <;> omega)) | fail)
                        all_goals (first | with_reducible rfl | (exfalso; ((try simp only [inB_t, inB_f, i_lt, i_le, i_eq, ne_eq, Bool.not_eq_true, Bool.not_eq_false, hpB, decide_eq_true_eq, decide_eq_false_iff_not, li_0, li_1, li_2, li_3, li_4, li_5, li_6, li_7, li_8, li_9, li_10, li_20, li_40, li_99, li_100, li_255, li_899, li_999, li_m1, li_m2, li_m3, li_m4, li_m11, li_m12, li_m13, li_m14, li_m100] at h4 hts h8 h13 h30 ht2 h42 h50 h75 h83 ⊢) <;> omega)))) hR69)
                · refine x_aload_n (pc := 86) C 2 dX11_plan_86 rfl ?_
                  refine g_main_thought (pc := 87) C E q2_3 dX11_plan_87 ?_
                  refine x_iconst (pc := 90) (v := 2) C dX11_plan_90 rfl ?_
                  refine x_callV (pc := 91) C E [.int 2] [] (w_safe t (by decide : 2 < 3) hV69 _) m_X10_safe q34_9 (xo_World (i := 2) (by omega)) rfl (by decide) (Nat.le_of_ble_eq_true rfl) dX11_plan_91 rfl (k_I ?_)
                  refine x_goto (pc := 94) C 104 dX11_plan_94 (by decide) ?_
                  exact x_iret (pc := 104) C X dX11_plan_104 (fia (by
                        unfold a_plan
                        simp only [hos, h50, Bool.true_eq_false, or_false]
                        repeat (first | with_reducible rfl | (refine (if_pos ?_).trans ?_; ((try simp only [inB_t, inB_f, i_lt, i_le, i_eq, ne_eq, Bool.not_eq_true, Bool.not_eq_false, hpB, decide_eq_true_eq, decide_eq_false_iff_not, li_0, li_1, li_2, li_3, li_4, li_5, li_6, li_7, li_8, li_9, li_10, li_20, li_40, li_99, li_100, li_255, li_899, li_999, li_m1, li_m2, li_m3, li_m4, li_m11, li_m12, li_m13, li_m14, li_m100] at h4 hts h8 h13 h30 ht2 h42 h50 h75 h83 ⊢) <;> omega)) | (refine (if_neg ?_).trans ?_; ((try simp only [inB_t, inB_f, i_lt, i_le, i_eq, ne_eq, Bool.not_eq_true, Bool.not_eq_false, hpB, decide_eq_true_eq, decide_eq_false_iff_not, li_0, li_1, li_2, li_3, li_4, li_5, li_6, li_7, li_8, li_9, li_10, li_20, li_40, li_99, li_100, li_255, li_899, li_999, li_m1, li_m2, li_m3, li_m4, li_m11, li_m12, li_m13, li_m14, li_m100] at h4 hts h8 h13 h30 ht2 h42 h50 h75 h83 ⊢) <;> omega)) | fail)
                        all_goals (first | with_reducible rfl | (exfalso; ((try simp only [inB_t, inB_f, i_lt, i_le, i_eq, ne_eq, Bool.not_eq_true, Bool.not_eq_false, hpB, decide_eq_true_eq, decide_eq_false_iff_not, li_0, li_1, li_2, li_3, li_4, li_5, li_6, li_7, li_8, li_9, li_10, li_20, li_40, li_99, li_100, li_255, li_899, li_999, li_m1, li_m2, li_m3, li_m4, li_m11, li_m12, li_m13, li_m14, li_m100] at h4 hts h8 h13 h30 ht2 h42 h50 h75 h83 ⊢) <;> omega)))) hR69)
              · refine x_iload (pc := 78) C 0 dX11_plan_78 rfl ?_
                exact x_iret (pc := 80) C X dX11_plan_80 (fia (by
                      unfold a_plan
                      simp only [hos, h50, Bool.true_eq_false, or_false]
                      repeat (first | with_reducible rfl | (refine (if_pos ?_).trans ?_; ((try simp only [inB_t, inB_f, i_lt, i_le, i_eq, ne_eq, Bool.not_eq_true, Bool.not_eq_false, hpB, decide_eq_true_eq, decide_eq_false_iff_not, li_0, li_1, li_2, li_3, li_4, li_5, li_6, li_7, li_8, li_9, li_10, li_20, li_40, li_99, li_100, li_255, li_899, li_999, li_m1, li_m2, li_m3, li_m4, li_m11, li_m12, li_m13, li_m14, li_m100] at h4 hts h8 h13 h30 ht2 h42 h50 h75 ⊢) <;> omega)) | (refine (if_neg ?_).trans ?_; ((try simp only [inB_t, inB_f, i_lt, i_le, i_eq, ne_eq, Bool.not_eq_true, Bool.not_eq_false, hpB, decide_eq_true_eq, decide_eq_false_iff_not, li_0, li_1, li_2, li_3, li_4, li_5, li_6, li_7, li_8, li_9, li_10, li_20, li_40, li_99, li_100, li_255, li_899, li_999, li_m1, li_m2, li_m3, li_m4, li_m11, li_m12, li_m13, li_m14, li_m100] at h4 hts h8 h13 h30 ht2 h42 h50 h75 ⊢) <;> omega)) | fail)
                      all_goals (first | with_reducible rfl | (exfalso; ((try simp only [inB_t, inB_f, i_lt, i_le, i_eq, ne_eq, Bool.not_eq_true, Bool.not_eq_false, hpB, decide_eq_true_eq, decide_eq_false_iff_not, li_0, li_1, li_2, li_3, li_4, li_5, li_6, li_7, li_8, li_9, li_10, li_20, li_40, li_99, li_100, li_255, li_899, li_999, li_m1, li_m2, li_m3, li_m4, li_m11, li_m12, li_m13, li_m14, li_m100] at h4 hts h8 h13 h30 ht2 h42 h50 h75 ⊢) <;> omega)))) hR69)
            · refine x_bipush (pc := 53) (v := (-2)) C dX11_plan_53 rfl ?_
              exact x_iret (pc := 55) C X dX11_plan_55 (fia (by
                    unfold a_plan
                    simp only [hos, h50, or_true]
                    repeat (first | with_reducible rfl | (refine (if_pos ?_).trans ?_; ((try simp only [inB_t, inB_f, i_lt, i_le, i_eq, ne_eq, Bool.not_eq_true, Bool.not_eq_false, hpB, decide_eq_true_eq, decide_eq_false_iff_not, li_0, li_1, li_2, li_3, li_4, li_5, li_6, li_7, li_8, li_9, li_10, li_20, li_40, li_99, li_100, li_255, li_899, li_999, li_m1, li_m2, li_m3, li_m4, li_m11, li_m12, li_m13, li_m14, li_m100] at h4 hts h8 h13 h30 ht2 h42 h50 ⊢) <;> omega)) | (refine (if_neg ?_).trans ?_; ((try simp only [inB_t, inB_f, i_lt, i_le, i_eq, ne_eq, Bool.not_eq_true, Bool.not_eq_false, hpB, decide_eq_true_eq, decide_eq_false_iff_not, li_0, li_1, li_2, li_3, li_4, li_5, li_6, li_7, li_8, li_9, li_10, li_20, li_40, li_99, li_100, li_255, li_899, li_999, li_m1, li_m2, li_m3, li_m4, li_m11, li_m12, li_m13, li_m14, li_m100] at h4 hts h8 h13 h30 ht2 h42 h50 ⊢) <;> omega)) | fail)
                    all_goals (first | with_reducible rfl | (exfalso; ((try simp only [inB_t, inB_f, i_lt, i_le, i_eq, ne_eq, Bool.not_eq_true, Bool.not_eq_false, hpB, decide_eq_true_eq, decide_eq_false_iff_not, li_0, li_1, li_2, li_3, li_4, li_5, li_6, li_7, li_8, li_9, li_10, li_20, li_40, li_99, li_100, li_255, li_899, li_999, li_m1, li_m2, li_m3, li_m4, li_m11, li_m12, li_m13, li_m14, li_m100] at h4 hts h8 h13 h30 ht2 h42 h50 ⊢) <;> omega)))) h)
        · refine x_bipush (pc := 33) (v := (-11)) C dX11_plan_33 rfl ?_
          exact x_iret (pc := 35) C X dX11_plan_35 (fia (by
                unfold a_plan
                simp only [hos]
                repeat (first | with_reducible rfl | (refine (if_pos ?_).trans ?_; ((try simp only [inB_t, inB_f, i_lt, i_le, i_eq, ne_eq, Bool.not_eq_true, Bool.not_eq_false, hpB, decide_eq_true_eq, decide_eq_false_iff_not, li_0, li_1, li_2, li_3, li_4, li_5, li_6, li_7, li_8, li_9, li_10, li_20, li_40, li_99, li_100, li_255, li_899, li_999, li_m1, li_m2, li_m3, li_m4, li_m11, li_m12, li_m13, li_m14, li_m100] at h4 hts h8 h13 h30 ⊢) <;> omega)) | (refine (if_neg ?_).trans ?_; ((try simp only [inB_t, inB_f, i_lt, i_le, i_eq, ne_eq, Bool.not_eq_true, Bool.not_eq_false, hpB, decide_eq_true_eq, decide_eq_false_iff_not, li_0, li_1, li_2, li_3, li_4, li_5, li_6, li_7, li_8, li_9, li_10, li_20, li_40, li_99, li_100, li_255, li_899, li_999, li_m1, li_m2, li_m3, li_m4, li_m11, li_m12, li_m13, li_m14, li_m100] at h4 hts h8 h13 h30 ⊢) <;> omega)) | fail)
                all_goals (first | with_reducible rfl | (exfalso; ((try simp only [inB_t, inB_f, i_lt, i_le, i_eq, ne_eq, Bool.not_eq_true, Bool.not_eq_false, hpB, decide_eq_true_eq, decide_eq_false_iff_not, li_0, li_1, li_2, li_3, li_4, li_5, li_6, li_7, li_8, li_9, li_10, li_20, li_40, li_99, li_100, li_255, li_899, li_999, li_m1, li_m2, li_m3, li_m4, li_m11, li_m12, li_m13, li_m14, li_m100] at h4 hts h8 h13 h30 ⊢) <;> omega)))) h)
      · refine x_bipush (pc := 16) (v := (-2)) C dX11_plan_16 rfl ?_
        exact x_iret (pc := 18) C X dX11_plan_18 (fia (by
              unfold a_plan
              simp only [hos]
              repeat (first | with_reducible rfl | (refine (if_pos ?_).trans ?_; ((try simp only [inB_t, inB_f, i_lt, i_le, i_eq, ne_eq, Bool.not_eq_true, Bool.not_eq_false, hpB, decide_eq_true_eq, decide_eq_false_iff_not, li_0, li_1, li_2, li_3, li_4, li_5, li_6, li_7, li_8, li_9, li_10, li_20, li_40, li_99, li_100, li_255, li_899, li_999, li_m1, li_m2, li_m3, li_m4, li_m11, li_m12, li_m13, li_m14, li_m100] at h4 hts h8 h13 ⊢) <;> omega)) | (refine (if_neg ?_).trans ?_; ((try simp only [inB_t, inB_f, i_lt, i_le, i_eq, ne_eq, Bool.not_eq_true, Bool.not_eq_false, hpB, decide_eq_true_eq, decide_eq_false_iff_not, li_0, li_1, li_2, li_3, li_4, li_5, li_6, li_7, li_8, li_9, li_10, li_20, li_40, li_99, li_100, li_255, li_899, li_999, li_m1, li_m2, li_m3, li_m4, li_m11, li_m12, li_m13, li_m14, li_m100] at h4 hts h8 h13 ⊢) <;> omega)) | fail)
              all_goals (first | with_reducible rfl | (exfalso; ((try simp only [inB_t, inB_f, i_lt, i_le, i_eq, ne_eq, Bool.not_eq_true, Bool.not_eq_false, hpB, decide_eq_true_eq, decide_eq_false_iff_not, li_0, li_1, li_2, li_3, li_4, li_5, li_6, li_7, li_8, li_9, li_10, li_20, li_40, li_99, li_100, li_255, li_899, li_999, li_m1, li_m2, li_m3, li_m4, li_m11, li_m12, li_m13, li_m14, li_m100] at h4 hts h8 h13 ⊢) <;> omega)))) h)

