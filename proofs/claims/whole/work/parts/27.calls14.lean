set_option maxRecDepth 100000 in
set_option maxHeartbeats 800000 in
theorem c_X11_bringsAll (t : CT) {σ : SV} {M : MM} (h : RC σ M){u : WV} (hV : VC 2 u M) (hun : vN u = vN (sV σ)) (x1 : Int32) {a b : Nat} (ha : a < vN u) (hb : b < vN u) : XMet (wC t) yX11_bringsAll cX11_bringsAll 5 (some .boolean) 6 [.ref (t.1 0), .int x1, .int (nI a), .int (nI b)] M (rI (b2i (brX u x1 a b)) M) := by
  refine x_met RX11 (by decide) rfl (Nat.le_of_ble_eq_true rfl) (fun κ C X E => ?_)
  refine x_L (L' := [(0, .ref (t.1 0)), (1, .int x1), (2, .int (nI a)), (3, .int (nI b))]) rfl ?_
  have hn6 := rc_n6 h
  have hq6 := rc_q6 h
  have hq := rc_q h
  have hN6 := h.1.1
  have hB := h.1.2.1
  have hu6 := hV.1
  refine x_aload_n (pc := 0) C 0 dX11_bringsAll_0 rfl ?_
  refine g_main_thought (pc := 1) C E q2_3 dX11_bringsAll_1 ?_
  refine g_World_disks (pc := 4) C E (i := 2) (by omega) q12_15 dX11_bringsAll_4 ?_
  refine x_iload_n (pc := 7) C 2 dX11_bringsAll_7 rfl ?_
  refine l_disks (pc := 8) C E (i := 2) (by omega) (by omega) dX11_bringsAll_8 ?_
  refine g_Disk_held (pc := 9) C E (by omega) q20_7 dX11_bringsAll_9 ?_
  refine x_eq (show M (62 + 3 * (6 * 2 + a)) 3 = mk (vHas u a) 8 from (hV.2.2.2.2 a ha).2.2.2.2.1) ?_
  refine x_aload_n (pc := 12) C 0 dX11_bringsAll_12 rfl ?_
  refine g_main_thought (pc := 13) C E q2_3 dX11_bringsAll_13 ?_
  refine g_World_disks (pc := 16) C E (i := 2) (by omega) q12_15 dX11_bringsAll_16 ?_
  refine x_iload_n (pc := 19) C 3 dX11_bringsAll_19 rfl ?_
  refine l_disks (pc := 20) C E (i := 2) (by omega) (by omega) dX11_bringsAll_20 ?_
  refine g_Disk_held (pc := 21) C E (by omega) q20_7 dX11_bringsAll_21 ?_
  refine x_eq (show M (62 + 3 * (6 * 2 + b)) 3 = mk (vHas u b) 8 from (hV.2.2.2.2 b hb).2.2.2.2.1) ?_
  refine x_iconst (pc := 24) (v := (-1)) C dX11_bringsAll_24 rfl ?_
  refine x_ixor (pc := 25) C dX11_bringsAll_25 ?_
  refine x_iand (pc := 26) C dX11_bringsAll_26 ?_
  refine x_istore (pc := 27) (L' := [(4, .int ((mk (vHas u a) 8) &&& ((mk (vHas u b) 8) ^^^ (-1)))), (0, .ref (t.1 0)), (1, .int x1), (2, .int (nI a)), (3, .int (nI b))]) C dX11_bringsAll_27 (by decide) rfl ?_
  refine x_iload_n (pc := 29) C 2 dX11_bringsAll_29 rfl ?_
  refine x_iload (pc := 30) C 0 dX11_bringsAll_30 rfl ?_
  refine x_iconst (pc := 32) (v := (-1)) C dX11_bringsAll_32 rfl ?_
  refine x_ixor (pc := 33) C dX11_bringsAll_33 ?_
  refine x_iand (pc := 34) C dX11_bringsAll_34 ?_
  refine x_if_ne (pc := 35) C 54 dX11_bringsAll_35 (by decide) (fun h35 => ?_) (fun h35 => ?_)
  · refine x_iconst (pc := 54) (v := 0) C dX11_bringsAll_54 rfl ?_
    exact x_bret (pc := 55) C X (b := false) rfl dX11_bringsAll_55 (rI_b (Eq.symm (by unfold brX; rw [decide_eq_false h35]; rfl)))
  · refine x_aload_n (pc := 38) C 1 dX11_bringsAll_38 rfl ?_
    refine g_main_thought (pc := 39) C E q2_3 dX11_bringsAll_39 ?_
    refine x_iload_n (pc := 42) C 3 dX11_bringsAll_42 rfl ?_
    refine x_iload_n (pc := 43) C 4 dX11_bringsAll_43 rfl ?_
    refine x_callV (pc := 44) C E [.int (nI a), .int (nI b)] [] (w_canCopy t (by decide : 2 < 3) hV (by omega) (by omega)) m_X10_canCopy q29_20 (xo_World (i := 2) (by omega)) rfl (by decide) (Nat.le_of_ble_eq_true rfl) dX11_bringsAll_44 rfl (k_I ?_)
    refine x_ifb_eq (pc := 47) C 54 dX11_bringsAll_47 (by decide) (fun h47 => ?_) (fun h47 => ?_)
    · refine x_iconst (pc := 54) (v := 0) C dX11_bringsAll_54 rfl ?_
      exact x_bret (pc := 55) C X (b := false) rfl dX11_bringsAll_55 (rI_b (Eq.symm (by unfold brX; rw [decide_eq_true h35, h47]; rfl)))
    · refine x_iconst (pc := 50) (v := 1) C dX11_bringsAll_50 rfl ?_
      refine x_goto (pc := 51) C 55 dX11_bringsAll_51 (by decide) ?_
      exact x_bret (pc := 55) C X (b := true) rfl dX11_bringsAll_55 (rI_b (Eq.symm (by unfold brX; rw [decide_eq_true h35, h47]; rfl)))

set_option maxRecDepth 100000 in
set_option maxHeartbeats 800000 in
theorem c_X11_comesToSafe0 (t : CT) {σ : SV} {M : MM} (h : RC σ M){u : WV} (hV : VC 2 u M) (hun : vN u = vN (sV σ)) (k w : Int32) : XMet (wC t) yX11_comesToSafe cX11_comesToSafe 7 (some .boolean) 9 [.ref (t.1 0), .int w, .int k, .int (nI 0)] M (fun r M' => r = some (.int (b2i (csX σ k w 0 u))) ∧ RC σ M' ∧ VC 2 u M' ∧ ∀ x y, 116 + 3 * 0 ≤ x → M' x y = M x y) := by
  refine x_met RX11 (by decide) rfl (Nat.le_of_ble_eq_true rfl) (fun κ C X E => ?_)
  refine x_L (L' := [(0, .ref (t.1 0)), (1, .int w), (2, .int k), (3, .int (nI 0))]) rfl ?_
  have hn6 := rc_n6 h
  have hq6 := rc_q6 h
  have hq := rc_q h
  have hN6 := h.1.1
  have hB := h.1.2.1
  have hu6 := hV.1
  refine x_iload_n (pc := 0) C 1 dX11_comesToSafe_0 rfl ?_
  refine x_aload_n (pc := 1) C 0 dX11_comesToSafe_1 rfl ?_
  refine g_main_thought (pc := 2) C E q2_3 dX11_comesToSafe_2 ?_
  refine x_iload_n (pc := 5) C 2 dX11_comesToSafe_5 rfl ?_
  refine x_callV (pc := 6) C E [.int k] [.int w] (w_safe t (by decide : 2 < 3) hV _) m_X10_safe q34_9 (xo_World (i := 2) (by omega)) rfl (by decide) (Nat.le_of_ble_eq_true rfl) dX11_comesToSafe_6 rfl (k_I ?_)
  refine x_iconst (pc := 9) (v := (-1)) C dX11_comesToSafe_9 rfl ?_
  refine x_ixor (pc := 10) C dX11_comesToSafe_10 ?_
  refine x_iand (pc := 11) C dX11_comesToSafe_11 ?_
  refine x_if_ne (pc := 12) C 17 dX11_comesToSafe_12 (by decide) (fun h12 => ?_) (fun h12 => ?_)
  · refine x_iload_n (pc := 17) C 3 dX11_comesToSafe_17 rfl ?_
    refine x_iconst (pc := 18) (v := 1) C dX11_comesToSafe_18 rfl ?_
    refine x_icmp_lt_t (pc := 19) C 27 dX11_comesToSafe_19 (by decide) (by decide) ?_
    refine x_iconst (pc := 27) (v := 0) C dX11_comesToSafe_27 rfl ?_
    exact x_bret (pc := 28) C X (b := false) rfl dX11_comesToSafe_28 ⟨by rw [show csX σ k w 0 u = false from decide_eq_false h12], h, hV, fun _ _ _ => rfl⟩
  · refine x_iconst (pc := 15) (v := 1) C dX11_comesToSafe_15 rfl ?_
    exact x_bret (pc := 16) C X (b := true) rfl dX11_comesToSafe_16 ⟨by rw [csX_0 h12], h, hV, fun _ _ _ => rfl⟩

theorem vCp_le {v : WV} {a b : Nat} {Ev : (Nat → Int32) → Int32} : ∀ n, (vCp v a b Ev n).2 ≤ n := by
  intro n
  induction n with
  | zero => exact Nat.le_refl _
  | succ n ih =>
    rw [vCp]
    split
    · show (vCp v a b Ev n).2 + 1 ≤ n + 1
      omega
    · omega
theorem sCp_le (σ : SV) (v : WV) (a b : Nat) : (sCp σ v a b).2 ≤ 8 := by
  rw [← sCp_eq]
  exact vCp_le 8
set_option maxRecDepth 100000 in
set_option maxHeartbeats 800000 in
theorem c_X11_leadsToSafe (t : CT) {σ : SV} {M : MM} (h : RC σ M){k w : Int32} {l : Nat} (hl : l < 3) (hcs : ∀ (M : MM) (u : WV), RC σ M → VC 2 u M → vN u = vN (sV σ) → XMet (wC t) yX11_comesToSafe cX11_comesToSafe 7 (some .boolean) (9 + 2 * l) [.ref (t.1 0), .int w, .int k, .int (nI l)] M (fun r M' => r = some (.int (b2i (csX σ k w l u))) ∧ RC σ M' ∧ VC 2 u M' ∧ ∀ x y, 116 + 3 * l ≤ x → M' x y = M x y)) {u : WV} (hV : VC 2 u M) (hun : vN u = vN (sV σ)) {a b : Nat} (ha : a < vN u) (hb : b < vN u) : XMet (wC t) yX11_leadsToSafe cX11_leadsToSafe 8 (some .boolean) (10 + 2 * l) [.ref (t.1 0), .int (nI a), .int (nI b), .int w, .int k, .int (nI (l + 1))] M (fun r M' => r = some (.int (b2i (decide (0 < (sCp σ u a b).2) && csX σ k w l (sCp σ u a b).1))) ∧ RC σ M' ∧ VC 2 u M' ∧ ∀ x y, 116 + 3 * (l + 1) ≤ x → M' x y = M x y) := by
  refine x_met RX11 (by decide) rfl (Nat.le_of_ble_eq_true rfl) (fun κ C X E => ?_)
  refine x_L (L' := [(0, .ref (t.1 0)), (1, .int (nI a)), (2, .int (nI b)), (3, .int w), (4, .int k), (5, .int (nI (l + 1)))]) rfl ?_
  have hn6 := rc_n6 h
  have hq6 := rc_q6 h
  have hq := rc_q h
  have hN6 := h.1.1
  have hB := h.1.2.1
  have hu6 := hV.1
  refine x_aload_n (pc := 0) C 0 dX11_leadsToSafe_0 rfl ?_
  refine g_main_thought (pc := 1) C E q2_3 dX11_leadsToSafe_1 ?_
  refine g_World_disks (pc := 4) C E (i := 2) (by omega) q12_15 dX11_leadsToSafe_4 ?_
  refine x_iload_n (pc := 7) C 2 dX11_leadsToSafe_7 rfl ?_
  refine l_disks (pc := 8) C E (i := 2) (by omega) (by omega) dX11_leadsToSafe_8 ?_
  refine x_astore (pc := 9) (L' := [(6, .ref (t.1 (62 + 3 * (6 * 2 + b)))), (0, .ref (t.1 0)), (1, .int (nI a)), (2, .int (nI b)), (3, .int w), (4, .int k), (5, .int (nI (l + 1)))]) C dX11_leadsToSafe_9 (by decide) rfl ?_
  refine x_aload_n (pc := 11) C 1 dX11_leadsToSafe_11 rfl ?_
  refine g_main_before (pc := 12) C E q2_5 dX11_leadsToSafe_12 ?_
  refine x_iload (pc := 15) C 6 dX11_leadsToSafe_15 rfl ?_
  refine x_iconst (pc := 17) (v := (nI 1)) C dX11_leadsToSafe_17 (by decide) ?_
  refine x_isub (pc := 18) C dX11_leadsToSafe_18 ?_
  refine x_eq (show (nI (l + 1)) - (nI 1) = nI l from (pk_sub (b := 1) (by omega))) ?_
  refine l_before (pc := 19) C E (by omega) dX11_leadsToSafe_19 ?_
  refine x_aload (pc := 20) C 0 dX11_leadsToSafe_20 rfl ?_
  refine x_callV (pc := 22) C E [.ref (t.1 (62 + 3 * (6 * 2 + b)))] [] (c_X2_become t _ (by omega) (by omega)) m_X2_become q37_19 (xo_Disk (by omega)) rfl (by omega) (Nat.le_of_ble_eq_true rfl) dX11_leadsToSafe_22 rfl (k_U ?_)
  have hB0 := cs_before (l := l) (b := b) h hV
  refine x_aload_n (pc := 25) C 1 dX11_leadsToSafe_25 rfl ?_
  refine g_main_thought (pc := 26) C E q2_3 dX11_leadsToSafe_26 ?_
  refine x_iload_n (pc := 29) C 2 dX11_leadsToSafe_29 rfl ?_
  refine x_iload_n (pc := 30) C 3 dX11_leadsToSafe_30 rfl ?_
  refine x_aload_n (pc := 31) C 1 dX11_leadsToSafe_31 rfl ?_
  refine x_callV (pc := 32) C E [] [.int (nI b), .int (nI a), .ref (t.1 (7 + 2))] (c_X11_rule t hB0.1) m_X11_rule q23_15 xo_main rfl (by omega) (Nat.le_of_ble_eq_true rfl) dX11_leadsToSafe_32 rfl (k_A ?_)
  refine x_callV (pc := 35) C E [.int (nI a), .int (nI b), .ref (t.1 (19 + 5 * (vR (sV σ))))] [] (c_copyT t hB0.1 hB0.2 (a := a) (b := b) (by omega) (by omega) (rc_q hB0.1)) m_X10_copyOnto q30_2 (xo_World (i := 2) (by omega)) rfl (by omega) (Nat.le_of_ble_eq_true rfl) dX11_leadsToSafe_35 rfl (fun r M35 hc35 => ?_)
  rw [sCp_eq] at hc35
  obtain ⟨rfl, hR35, hV35, hO35⟩ := hc35
  show XV κ (xP (wC t) M35) 38 _ [.int (nI (sCp σ u a b).2)]
  have hu2 : vN (sCp σ u a b).1 = vN (sV σ) := (sCp_rest σ u a b).1.trans hun
  refine x_if_le (pc := 38) C 59 dX11_leadsToSafe_38 (by decide) (fun h38 => ?_) (fun h38 => ?_)
  · refine x_iconst (pc := 59) (v := 0) C dX11_leadsToSafe_59 rfl ?_
    refine x_istore (pc := 60) (L' := [(7, .int 0), (6, .ref (t.1 (62 + 3 * (6 * 2 + b)))), (0, .ref (t.1 0)), (1, .int (nI a)), (2, .int (nI b)), (3, .int w), (4, .int k), (5, .int (nI (l + 1)))]) C dX11_leadsToSafe_60 (by decide) rfl ?_
    have hB1 := cs_back (l := l) (b := b) (M2 := M35) hV hb (wBut_cp σ u a b) hR35 hV35 (fun x y hx => hO35 x y (by omega))
    refine x_aload (pc := 62) C 1 dX11_leadsToSafe_62 rfl ?_
    refine x_aload_n (pc := 64) C 2 dX11_leadsToSafe_64 rfl ?_
    refine g_main_before (pc := 65) C E q2_5 dX11_leadsToSafe_65 ?_
    refine x_iload (pc := 68) C 7 dX11_leadsToSafe_68 rfl ?_
    refine x_iconst (pc := 70) (v := (nI 1)) C dX11_leadsToSafe_70 (by decide) ?_
    refine x_isub (pc := 71) C dX11_leadsToSafe_71 ?_
    refine x_eq (show (nI (l + 1)) - (nI 1) = nI l from (pk_sub (b := 1) (by omega))) ?_
    refine l_before (pc := 72) C E (by omega) dX11_leadsToSafe_72 ?_
    refine x_callV (pc := 73) C E [.ref (t.1 (62 + 3 * (18 + l)))] [] (c_X2_become t _ (by omega) (by omega)) m_X2_become q37_19 (xo_Disk (by omega)) rfl (by omega) (Nat.le_of_ble_eq_true rfl) dX11_leadsToSafe_73 rfl (k_U ?_)
    refine x_iload (pc := 76) C 0 dX11_leadsToSafe_76 rfl ?_
    exact x_bret (pc := 78) C X (b := false) rfl dX11_leadsToSafe_78 ⟨by rw [decide_eq_false (show ¬ 0 < (sCp σ u a b).2 by have h0 := (sCp_le σ u a b); rw [i_le, nI_toInt (by omega), li_0] at h38; omega)]; rfl, hB1⟩
  · refine x_aload_n (pc := 41) C 1 dX11_leadsToSafe_41 rfl ?_
    refine x_iload_n (pc := 42) C 4 dX11_leadsToSafe_42 rfl ?_
    refine x_iload (pc := 43) C 5 dX11_leadsToSafe_43 rfl ?_
    refine x_iload (pc := 45) C 6 dX11_leadsToSafe_45 rfl ?_
    refine x_iconst (pc := 47) (v := (nI 1)) C dX11_leadsToSafe_47 (by decide) ?_
    refine x_isub (pc := 48) C dX11_leadsToSafe_48 ?_
    refine x_eq (show (nI (l + 1)) - (nI 1) = nI l from (pk_sub (b := 1) (by omega))) ?_
    refine x_callV (pc := 49) C E [.int w, .int k, .int (nI l)] [] (hcs _ _ hR35 hV35 hu2) m_X11_comesToSafe q37_7 xo_main rfl (by omega) (Nat.le_of_ble_eq_true rfl) dX11_leadsToSafe_49 rfl (fun r M49 hc49 => ?_)
    obtain ⟨rfl, hR49, hV49, hO49⟩ := hc49
    show XV κ (xP (wC t) M49) 52 _ [.int (b2i (csX σ k w l (sCp σ u a b).1))]
    refine x_ifb_eq (pc := 52) C 59 dX11_leadsToSafe_52 (by decide) (fun h52 => ?_) (fun h52 => ?_)
    · refine x_iconst (pc := 59) (v := 0) C dX11_leadsToSafe_59 rfl ?_
      refine x_istore (pc := 60) (L' := [(7, .int 0), (6, .ref (t.1 (62 + 3 * (6 * 2 + b)))), (0, .ref (t.1 0)), (1, .int (nI a)), (2, .int (nI b)), (3, .int w), (4, .int k), (5, .int (nI (l + 1)))]) C dX11_leadsToSafe_60 (by decide) rfl ?_
      have hB1 := cs_back (l := l) (b := b) (M2 := M49) hV hb (wBut_cp σ u a b) hR49 hV49 (fun x y hx => (hO49 x y hx).trans (hO35 x y (by omega)))
      refine x_aload (pc := 62) C 1 dX11_leadsToSafe_62 rfl ?_
      refine x_aload_n (pc := 64) C 2 dX11_leadsToSafe_64 rfl ?_
      refine g_main_before (pc := 65) C E q2_5 dX11_leadsToSafe_65 ?_
      refine x_iload (pc := 68) C 7 dX11_leadsToSafe_68 rfl ?_
      refine x_iconst (pc := 70) (v := (nI 1)) C dX11_leadsToSafe_70 (by decide) ?_
      refine x_isub (pc := 71) C dX11_leadsToSafe_71 ?_
      refine x_eq (show (nI (l + 1)) - (nI 1) = nI l from (pk_sub (b := 1) (by omega))) ?_
      refine l_before (pc := 72) C E (by omega) dX11_leadsToSafe_72 ?_
      refine x_callV (pc := 73) C E [.ref (t.1 (62 + 3 * (18 + l)))] [] (c_X2_become t _ (by omega) (by omega)) m_X2_become q37_19 (xo_Disk (by omega)) rfl (by omega) (Nat.le_of_ble_eq_true rfl) dX11_leadsToSafe_73 rfl (k_U ?_)
      refine x_iload (pc := 76) C 0 dX11_leadsToSafe_76 rfl ?_
      exact x_bret (pc := 78) C X (b := false) rfl dX11_leadsToSafe_78 ⟨by rw [decide_eq_true (show 0 < (sCp σ u a b).2 by have h0 := (sCp_le σ u a b); rw [i_le, nI_toInt (by omega), li_0] at h38; omega), h52]; rfl, hB1⟩
    · refine x_iconst (pc := 55) (v := 1) C dX11_leadsToSafe_55 rfl ?_
      refine x_goto (pc := 56) C 60 dX11_leadsToSafe_56 (by decide) ?_
      refine x_istore (pc := 60) (L' := [(7, .int 1), (6, .ref (t.1 (62 + 3 * (6 * 2 + b)))), (0, .ref (t.1 0)), (1, .int (nI a)), (2, .int (nI b)), (3, .int w), (4, .int k), (5, .int (nI (l + 1)))]) C dX11_leadsToSafe_60 (by decide) rfl ?_
      have hB1 := cs_back (l := l) (b := b) (M2 := M49) hV hb (wBut_cp σ u a b) hR49 hV49 (fun x y hx => (hO49 x y hx).trans (hO35 x y (by omega)))
      refine x_aload (pc := 62) C 1 dX11_leadsToSafe_62 rfl ?_
      refine x_aload_n (pc := 64) C 2 dX11_leadsToSafe_64 rfl ?_
      refine g_main_before (pc := 65) C E q2_5 dX11_leadsToSafe_65 ?_
      refine x_iload (pc := 68) C 7 dX11_leadsToSafe_68 rfl ?_
      refine x_iconst (pc := 70) (v := (nI 1)) C dX11_leadsToSafe_70 (by decide) ?_
      refine x_isub (pc := 71) C dX11_leadsToSafe_71 ?_
      refine x_eq (show (nI (l + 1)) - (nI 1) = nI l from (pk_sub (b := 1) (by omega))) ?_
      refine l_before (pc := 72) C E (by omega) dX11_leadsToSafe_72 ?_
      refine x_callV (pc := 73) C E [.ref (t.1 (62 + 3 * (18 + l)))] [] (c_X2_become t _ (by omega) (by omega)) m_X2_become q37_19 (xo_Disk (by omega)) rfl (by omega) (Nat.le_of_ble_eq_true rfl) dX11_leadsToSafe_73 rfl (k_U ?_)
      refine x_iload (pc := 76) C 0 dX11_leadsToSafe_76 rfl ?_
      exact x_bret (pc := 78) C X (b := true) rfl dX11_leadsToSafe_78 ⟨by rw [decide_eq_true (show 0 < (sCp σ u a b).2 by have h0 := (sCp_le σ u a b); rw [i_le, nI_toInt (by omega), li_0] at h38; omega), h52]; rfl, hB1⟩

set_option maxRecDepth 100000 in
set_option maxHeartbeats 800000 in
theorem c_X11_comesToSafeS (t : CT) {σ : SV} {M : MM} (h : RC σ M){kk w : Int32} {l : Nat} (hl : l < 3) {u : WV} (hV : VC 2 u M) (hun : vN u = vN (sV σ)) (hls : ∀ (M : MM), RC σ M → VC 2 u M → ∀ a b, a < vN u → b < vN u → XMet (wC t) yX11_leadsToSafe cX11_leadsToSafe 8 (some .boolean) (10 + 2 * l) [.ref (t.1 0), .int (nI a), .int (nI b), .int w, .int kk, .int (nI (l + 1))] M (fun r M' => r = some (.int (b2i (decide (0 < (sCp σ u a b).2) && csX σ kk w l (sCp σ u a b).1))) ∧ RC σ M' ∧ VC 2 u M' ∧ ∀ x y, 116 + 3 * (l + 1) ≤ x → M' x y = M x y))  : XMet (wC t) yX11_comesToSafe cX11_comesToSafe 7 (some .boolean) (11 + 2 * l) [.ref (t.1 0), .int w, .int kk, .int (nI (l + 1))] M (fun r M' => r = some (.int (b2i (csX σ kk w (l + 1) u))) ∧ RC σ M' ∧ VC 2 u M' ∧ ∀ x y, 116 + 3 * (l + 1) ≤ x → M' x y = M x y) := by
  refine x_met RX11 (by decide) rfl (Nat.le_of_ble_eq_true rfl) (fun κ C X E => ?_)
  refine x_L (L' := [(0, .ref (t.1 0)), (1, .int w), (2, .int kk), (3, .int (nI (l + 1)))]) rfl ?_
  have hn6 := rc_n6 h
  have hq6 := rc_q6 h
  have hq := rc_q h
  have hN6 := h.1.1
  have hB := h.1.2.1
  have hu6 := hV.1
  refine x_iload_n (pc := 0) C 1 dX11_comesToSafe_0 rfl ?_
  refine x_aload_n (pc := 1) C 0 dX11_comesToSafe_1 rfl ?_
  refine g_main_thought (pc := 2) C E q2_3 dX11_comesToSafe_2 ?_
  refine x_iload_n (pc := 5) C 2 dX11_comesToSafe_5 rfl ?_
  refine x_callV (pc := 6) C E [.int kk] [.int w] (w_safe t (by decide : 2 < 3) hV _) m_X10_safe q34_9 (xo_World (i := 2) (by omega)) rfl (by omega) (Nat.le_of_ble_eq_true rfl) dX11_comesToSafe_6 rfl (k_I ?_)
  refine x_iconst (pc := 9) (v := (-1)) C dX11_comesToSafe_9 rfl ?_
  refine x_ixor (pc := 10) C dX11_comesToSafe_10 ?_
  refine x_iand (pc := 11) C dX11_comesToSafe_11 ?_
  refine x_eq (show w &&& ((vSafe u kk) ^^^ (-1)) = ugX u kk w from rfl) ?_
  refine x_if_ne (pc := 12) C 17 dX11_comesToSafe_12 (by decide) (fun h12 => ?_) (fun h12 => ?_)
  · refine x_iload_n (pc := 17) C 3 dX11_comesToSafe_17 rfl ?_
    refine x_iconst (pc := 18) (v := (nI 1)) C dX11_comesToSafe_18 (by decide) ?_
    refine x_icmp_lt_f (pc := 19) C 27 dX11_comesToSafe_19 (by decide) (fun hh => by rw [i_lt, nI_toInt (by omega), nI_toInt (by decide)] at hh; omega) ?_
    refine x_iload_n (pc := 22) C 3 dX11_comesToSafe_22 rfl ?_
    refine x_iconst (pc := 23) (v := (nI 3)) C dX11_comesToSafe_23 (by decide) ?_
    refine x_icmp_le_t (pc := 24) C 29 dX11_comesToSafe_24 (by decide) (nI_le (by omega) (by decide)) ?_
    refine x_iload_n (pc := 29) C 1 dX11_comesToSafe_29 rfl ?_
    refine x_aload_n (pc := 30) C 0 dX11_comesToSafe_30 rfl ?_
    refine g_main_thought (pc := 31) C E q2_3 dX11_comesToSafe_31 ?_
    refine x_iload_n (pc := 34) C 2 dX11_comesToSafe_34 rfl ?_
    refine x_iload_n (pc := 35) C 3 dX11_comesToSafe_35 rfl ?_
    refine x_isub (pc := 36) C dX11_comesToSafe_36 ?_
    refine x_callV (pc := 37) C E [.int (kk - (nI (l + 1)))] [.int w] (w_safe t (by decide : 2 < 3) hV _) m_X10_safe q34_9 (xo_World (i := 2) (by omega)) rfl (by omega) (Nat.le_of_ble_eq_true rfl) dX11_comesToSafe_37 rfl (k_I ?_)
    refine x_iconst (pc := 40) (v := (-1)) C dX11_comesToSafe_40 rfl ?_
    refine x_ixor (pc := 41) C dX11_comesToSafe_41 ?_
    refine x_iand (pc := 42) C dX11_comesToSafe_42 ?_
    refine x_eq (show w &&& ((vSafe u (kk - (nI (l + 1)))) ^^^ (-1)) = ugX u (kk - nI (l + 1)) w from rfl) ?_
    refine x_if_eq (pc := 43) C 48 dX11_comesToSafe_43 (by decide) (fun h43 => ?_) (fun h43 => ?_)
    · refine x_iload_n (pc := 48) C 1 dX11_comesToSafe_48 rfl ?_
      refine x_aload_n (pc := 49) C 0 dX11_comesToSafe_49 rfl ?_
      refine g_main_thought (pc := 50) C E q2_3 dX11_comesToSafe_50 ?_
      refine x_iload_n (pc := 53) C 2 dX11_comesToSafe_53 rfl ?_
      refine x_iload_n (pc := 54) C 3 dX11_comesToSafe_54 rfl ?_
      refine x_isub (pc := 55) C dX11_comesToSafe_55 ?_
      refine x_iconst (pc := 56) (v := (nI 1)) C dX11_comesToSafe_56 (by decide) ?_
      refine x_iadd (pc := 57) C dX11_comesToSafe_57 ?_
      refine x_callV (pc := 58) C E [.int ((kk - (nI (l + 1))) + (nI 1))] [.int w] (w_safe t (by decide : 2 < 3) hV _) m_X10_safe q34_9 (xo_World (i := 2) (by omega)) rfl (by omega) (Nat.le_of_ble_eq_true rfl) dX11_comesToSafe_58 rfl (k_I ?_)
      refine x_iconst (pc := 61) (v := (-1)) C dX11_comesToSafe_61 rfl ?_
      refine x_ixor (pc := 62) C dX11_comesToSafe_62 ?_
      refine x_iand (pc := 63) C dX11_comesToSafe_63 ?_
      refine x_eq (show w &&& ((vSafe u ((kk - (nI (l + 1))) + (nI 1))) ^^^ (-1)) = ugX u (kk - nI (l + 1) + nI 1) w from rfl) ?_
      refine x_istore (pc := 64) (L' := [(4, .int (ugX u (kk - nI (l + 1) + nI 1) w)), (0, .ref (t.1 0)), (1, .int w), (2, .int kk), (3, .int (nI (l + 1)))]) C dX11_comesToSafe_64 (by decide) rfl ?_
      refine x_iconst (pc := 66) (v := (nI 0)) C dX11_comesToSafe_66 (by decide) ?_
      refine x_istore (pc := 67) (L' := [(5, .int (nI 0)), (4, .int (ugX u (kk - nI (l + 1) + nI 1) w)), (0, .ref (t.1 0)), (1, .int w), (2, .int kk), (3, .int (nI (l + 1)))]) C dX11_comesToSafe_67 (by decide) rfl ?_
      have loop69 : ∀ (k a : Nat) (y : Int32) (Mx : MM) , a + k = vN u → y = nI a → (RC σ Mx ∧ VC 2 u Mx ∧ ∀ x y, 116 + 3 * (l + 1) ≤ x → Mx x y = M x y) → anyN (fun a => anyN (csP σ kk w l u a) (vN u)) a = false → XV κ (xP (wC t) Mx) 69 [(5, .int y), (4, .int (ugX u (kk - nI (l + 1) + nI 1) w)), (0, .ref (t.1 0)), (1, .int w), (2, .int kk), (3, .int (nI (l + 1)))] [] := by
        intro k
        induction k with
          | zero =>
            intro a y Mx  hcnt ey eMx hx
            subst ey
            obtain rfl : vN u = a := by omega
            refine x_iload (pc := 69) C 0 dX11_comesToSafe_69 rfl ?_
            refine x_aload_n (pc := 71) C 2 dX11_comesToSafe_71 rfl ?_
            refine g_main_thought (pc := 72) C E q2_3 dX11_comesToSafe_72 ?_
            refine g_World_size (pc := 75) C E (i := 2) (by omega) q19_2 dX11_comesToSafe_75 ?_
            refine x_eq (show Mx (7 + 2) 2 = nI (vN u) from eMx.2.1.2.2.2.1) ?_
            refine x_icmp_ge_t (pc := 78) C 144 dX11_comesToSafe_78 (by decide) (nI_le (by omega) (by omega)) ?_
            refine x_iconst (pc := 144) (v := 0) C dX11_comesToSafe_144 rfl ?_
            exact x_bret (pc := 145) C X (b := false) rfl dX11_comesToSafe_145 ⟨by rw [csX_S h12 h43, hx], eMx⟩
          | succ k ih =>
            intro a y Mx  hcnt ey eMx hx
            subst ey
            have hi69 : a < vN u := by omega
            refine x_iload (pc := 69) C 0 dX11_comesToSafe_69 rfl ?_
            refine x_aload_n (pc := 71) C 2 dX11_comesToSafe_71 rfl ?_
            refine g_main_thought (pc := 72) C E q2_3 dX11_comesToSafe_72 ?_
            refine g_World_size (pc := 75) C E (i := 2) (by omega) q19_2 dX11_comesToSafe_75 ?_
            refine x_eq (show Mx (7 + 2) 2 = nI (vN u) from eMx.2.1.2.2.2.1) ?_
            refine x_icmp_ge_f (pc := 78) C 144 dX11_comesToSafe_78 (by decide) (nI_ge (by omega) (by omega)) ?_
            refine x_iconst (pc := 81) (v := (nI 0)) C dX11_comesToSafe_81 (by decide) ?_
            refine x_istore (pc := 82) (L' := [(6, .int (nI 0)), (5, .int (nI a)), (4, .int (ugX u (kk - nI (l + 1) + nI 1) w)), (0, .ref (t.1 0)), (1, .int w), (2, .int kk), (3, .int (nI (l + 1)))]) C dX11_comesToSafe_82 (by decide) rfl ?_
            have loop84 : ∀ (k b : Nat) (z : Int32) (My : MM) , b + k = vN u → z = nI b → (RC σ My ∧ VC 2 u My ∧ ∀ x y, 116 + 3 * (l + 1) ≤ x → My x y = M x y) → anyN (csP σ kk w l u a) b = false → XV κ (xP (wC t) My) 84 [(6, .int z), (5, .int (nI a)), (4, .int (ugX u (kk - nI (l + 1) + nI 1) w)), (0, .ref (t.1 0)), (1, .int w), (2, .int kk), (3, .int (nI (l + 1)))] [] := by
              intro k
              induction k with
                | zero =>
                  intro b z My  hcnt ez eMy hy
                  subst ez
                  obtain rfl : vN u = b := by omega
                  refine x_iload (pc := 84) C 0 dX11_comesToSafe_84 rfl ?_
                  refine x_aload_n (pc := 86) C 3 dX11_comesToSafe_86 rfl ?_
                  refine g_main_thought (pc := 87) C E q2_3 dX11_comesToSafe_87 ?_
                  refine g_World_size (pc := 90) C E (i := 2) (by omega) q19_2 dX11_comesToSafe_90 ?_
                  refine x_eq (show My (7 + 2) 2 = nI (vN u) from eMy.2.1.2.2.2.1) ?_
                  refine x_icmp_ge_t (pc := 93) C 138 dX11_comesToSafe_93 (by decide) (nI_le (by omega) (by omega)) ?_
                  refine x_iinc (pc := 138) (v := nI (a + 1)) (L' := [(5, .int (nI (a + 1))), (6, .int (nI (vN u))), (4, .int (ugX u (kk - nI (l + 1) + nI 1) w)), (0, .ref (t.1 0)), (1, .int w), (2, .int kk), (3, .int (nI (l + 1)))]) C 1 dX11_comesToSafe_138 rfl (nI_1 _) (by decide) rfl ?_
                  refine x_goto (pc := 141) C 69 dX11_comesToSafe_141 (by decide) ?_
                  refine x_sub [0, 2, 3, 4, 5, 6] rfl ?_
                  exact ih (a + 1) _ _ (by omega) rfl eMy (by rw [anyN, hx]; exact hy)
                | succ k ih =>
                  intro b z My  hcnt ez eMy hy
                  subst ez
                  have hi84 : b < vN u := by omega
                  refine x_iload (pc := 84) C 0 dX11_comesToSafe_84 rfl ?_
                  refine x_aload_n (pc := 86) C 3 dX11_comesToSafe_86 rfl ?_
                  refine g_main_thought (pc := 87) C E q2_3 dX11_comesToSafe_87 ?_
                  refine g_World_size (pc := 90) C E (i := 2) (by omega) q19_2 dX11_comesToSafe_90 ?_
                  refine x_eq (show My (7 + 2) 2 = nI (vN u) from eMy.2.1.2.2.2.1) ?_
                  refine x_icmp_ge_f (pc := 93) C 138 dX11_comesToSafe_93 (by decide) (nI_ge (by omega) (by omega)) ?_
                  refine x_iload (pc := 96) C 1 dX11_comesToSafe_96 rfl ?_
                  refine x_iload (pc := 98) C 0 dX11_comesToSafe_98 rfl ?_
                  refine x_icmp_eq (pc := 100) C 132 dX11_comesToSafe_100 (by decide) (fun h100 => ?_) (fun h100 => ?_)
                  · refine x_iinc (pc := 132) (v := nI (b + 1)) (L' := [(6, .int (nI (b + 1))), (5, .int (nI a)), (4, .int (ugX u (kk - nI (l + 1) + nI 1) w)), (0, .ref (t.1 0)), (1, .int w), (2, .int kk), (3, .int (nI (l + 1)))]) C 0 dX11_comesToSafe_132 rfl (nI_1 _) (by decide) rfl ?_
                    refine x_goto (pc := 135) C 84 dX11_comesToSafe_135 (by decide) ?_
                    refine x_sub [0, 1, 2, 3, 4, 5, 6] rfl ?_
                    exact ih (b + 1) _ _ (by omega) rfl eMy (by rw [anyN, hy, show csP σ kk w l u a b = false from (by rw [csP, decide_eq_true ((nI_eq (by omega) (by omega)).mp h100)]; rfl)]; rfl)
                  · refine x_aload_n (pc := 103) C 3 dX11_comesToSafe_103 rfl ?_
                    refine x_iload (pc := 104) C 2 dX11_comesToSafe_104 rfl ?_
                    refine x_iload (pc := 106) C 1 dX11_comesToSafe_106 rfl ?_
                    refine x_iload (pc := 108) C 0 dX11_comesToSafe_108 rfl ?_
                    refine x_callV (pc := 110) C E [.int (ugX u (kk - nI (l + 1) + nI 1) w), .int (nI a), .int (nI b)] [] (c_X11_bringsAll t eMy.1 eMy.2.1 hun _ (a := a) (b := b) (by omega) (by omega)) m_X11_bringsAll q37_11 xo_main rfl (by omega) (Nat.le_of_ble_eq_true rfl) dX11_comesToSafe_110 rfl (k_I ?_)
                    refine x_ifb_eq (pc := 113) C 132 dX11_comesToSafe_113 (by decide) (fun h113 => ?_) (fun h113 => ?_)
                    · refine x_iinc (pc := 132) (v := nI (b + 1)) (L' := [(6, .int (nI (b + 1))), (5, .int (nI a)), (4, .int (ugX u (kk - nI (l + 1) + nI 1) w)), (0, .ref (t.1 0)), (1, .int w), (2, .int kk), (3, .int (nI (l + 1)))]) C 0 dX11_comesToSafe_132 rfl (nI_1 _) (by decide) rfl ?_
                      refine x_goto (pc := 135) C 84 dX11_comesToSafe_135 (by decide) ?_
                      refine x_sub [0, 1, 2, 3, 4, 5, 6] rfl ?_
                      exact ih (b + 1) _ _ (by omega) rfl eMy (by rw [anyN, hy, show csP σ kk w l u a b = false from (by rw [csP, decide_eq_false (by intro hh; exact h100 (by rw [hh])), h113]; rfl)]; rfl)
                    · refine x_aload_n (pc := 116) C 3 dX11_comesToSafe_116 rfl ?_
                      refine x_iload (pc := 117) C 1 dX11_comesToSafe_117 rfl ?_
                      refine x_iload (pc := 119) C 0 dX11_comesToSafe_119 rfl ?_
                      refine x_iload_n (pc := 121) C 4 dX11_comesToSafe_121 rfl ?_
                      refine x_iload_n (pc := 122) C 5 dX11_comesToSafe_122 rfl ?_
                      refine x_iload_n (pc := 123) C 6 dX11_comesToSafe_123 rfl ?_
                      refine x_callV (pc := 124) C E [.int (nI a), .int (nI b), .int w, .int kk, .int (nI (l + 1))] [] (hls _ eMy.1 eMy.2.1 a b (by omega) (by omega)) m_X11_leadsToSafe q37_15 xo_main rfl (by omega) (Nat.le_of_ble_eq_true rfl) dX11_comesToSafe_124 rfl (fun r M124 hc124 => ?_)
                      obtain ⟨rfl, hR124, hV124, hO124⟩ := hc124
                      show XV κ (xP (wC t) M124) 127 _ [.int (b2i (decide (0 < (sCp σ u a b).2) && csX σ kk w l (sCp σ u a b).1))]
                      refine x_ifb_eq (pc := 127) C 132 dX11_comesToSafe_127 (by decide) (fun h127 => ?_) (fun h127 => ?_)
                      · refine x_iinc (pc := 132) (v := nI (b + 1)) (L' := [(6, .int (nI (b + 1))), (5, .int (nI a)), (4, .int (ugX u (kk - nI (l + 1) + nI 1) w)), (0, .ref (t.1 0)), (1, .int w), (2, .int kk), (3, .int (nI (l + 1)))]) C 0 dX11_comesToSafe_132 rfl (nI_1 _) (by decide) rfl ?_
                        refine x_goto (pc := 135) C 84 dX11_comesToSafe_135 (by decide) ?_
                        refine x_sub [0, 1, 2, 3, 4, 5, 6] rfl ?_
                        exact ih (b + 1) _ _ (by omega) rfl ⟨hR124, hV124, fun x y hx => (hO124 x y hx).trans (eMy.2.2 x y hx)⟩ (by rw [anyN, hy, show csP σ kk w l u a b = false from (by rw [csP, decide_eq_false (by intro hh; exact h100 (by rw [hh])), h113, h127]; rfl)]; rfl)
                      · refine x_iconst (pc := 130) (v := 1) C dX11_comesToSafe_130 rfl ?_
                        exact x_bret (pc := 131) C X (b := true) rfl dX11_comesToSafe_131 ⟨by rw [csX_S h12 h43, show anyN (fun a => anyN (csP σ kk w l u a) (vN u)) (vN u) = true from anyN_t (d := a) (by omega) (anyN_t (d := b) (by omega) (show csP σ kk w l u a b = true from (by rw [csP, decide_eq_false (by intro hh; exact h100 (by rw [hh])), h113, h127]; rfl)))], hR124, hV124, fun x y hx => (hO124 x y hx).trans (eMy.2.2 x y hx)⟩
            refine x_sub [0, 1, 2, 3, 4, 5, 6] rfl ?_
            exact loop84 (vN u) 0 _ Mx (by omega) rfl eMx rfl
      refine x_sub [0, 1, 2, 3, 4, 5] rfl ?_
      exact loop69 (vN u) 0 _ M (by omega) rfl ⟨h, hV, fun _ _ _ => rfl⟩ rfl
    · refine x_iconst (pc := 46) (v := 0) C dX11_comesToSafe_46 rfl ?_
      exact x_bret (pc := 47) C X (b := false) rfl dX11_comesToSafe_47 ⟨by rw [csX_F h12 h43], h, hV, fun _ _ _ => rfl⟩
  · refine x_iconst (pc := 15) (v := 1) C dX11_comesToSafe_15 rfl ?_
    exact x_bret (pc := 16) C X (b := true) rfl dX11_comesToSafe_16 ⟨by rw [csX_0 h12], h, hV, fun _ _ _ => rfl⟩

set_option maxRecDepth 100000 in
theorem c_cs (t : CT) {σ : SV} (k w : Int32) : ∀ (l : Nat), l ≤ 3 → ∀ (M : MM) (u : WV), RC σ M → VC 2 u M → vN u = vN (sV σ) → XMet (wC t) yX11_comesToSafe cX11_comesToSafe 7 (some .boolean) (9 + 2 * l) [.ref (t.1 0), .int w, .int k, .int (nI l)] M (fun r M' => r = some (.int (b2i (csX σ k w l u))) ∧ RC σ M' ∧ VC 2 u M' ∧ ∀ x y, 116 + 3 * l ≤ x → M' x y = M x y) := by
  intro l
  induction l with
  | zero => intro _ M u h hV hun; exact c_X11_comesToSafe0 t h hV hun k w
  | succ l ih =>
    intro hl M u h hV hun
    rw [show 9 + 2 * (l + 1) = 11 + 2 * l by omega]
    exact c_X11_comesToSafeS (l := l) t h (by omega) hV hun (fun M' h' hV' a b ha hb => c_X11_leadsToSafe t h' (by omega) (ih (by omega)) hV' hun ha hb)
set_option maxRecDepth 100000 in
set_option maxHeartbeats 800000 in
theorem c_X11_fewest (t : CT) {σ : SV} {M : MM} (h : RC σ M)(x1 : Int32) : XMet (wC t) yX11_fewest cX11_fewest 4 (some .int) 17 [.ref (t.1 0), .int x1] M (aR σ (a_fewest σ x1)) := by
  refine x_met RX11 (by decide) rfl (Nat.le_of_ble_eq_true rfl) (fun κ C X E => ?_)
  refine x_L (L' := [(0, .ref (t.1 0)), (1, .int x1)]) rfl ?_
  have hn6 := rc_n6 h
  have hq6 := rc_q6 h
  have hq := rc_q h
  have hN6 := h.1.1
  have hB := h.1.2.1
  refine x_iload_n (pc := 0) C 1 dX11_fewest_0 rfl ?_
  refine x_callS (pc := 1) C E [.int x1] [] (c_X11_isHowMany t _ _) m_X11_isHowMany q35_21 rfl (by decide) (Nat.le_of_ble_eq_true rfl) dX11_fewest_1 rfl (k_I ?_)
  refine x_ifb_ne (pc := 4) C 10 dX11_fewest_4 (by decide) (fun h4 => ?_) (fun h4 => ?_)
  · refine x_aload_n (pc := 10) C 0 dX11_fewest_10 rfl ?_
    refine g_main_now (pc := 11) C E q2_1 dX11_fewest_11 ?_
    refine x_aload_n (pc := 14) C 0 dX11_fewest_14 rfl ?_
    refine g_main_now (pc := 15) C E q2_1 dX11_fewest_15 ?_
    refine x_callV (pc := 18) C E [] [.ref (t.1 (7 + 0))] (w_readers t (by decide : 0 < 3) h.2.1 ) m_X10_readers q33_22 (xo_World (i := 0) (by omega)) rfl (by decide) (Nat.le_of_ble_eq_true rfl) dX11_fewest_18 rfl (k_I ?_)
    refine x_callV (pc := 21) C E [.int (mk (vRd (sV σ)) (vN (sV σ)))] [] (w_filesOn t (by decide : 0 < 3) h.2.1 _) m_X10_filesOn q33_23 (xo_World (i := 0) (by omega)) rfl (by decide) (Nat.le_of_ble_eq_true rfl) dX11_fewest_21 rfl (k_I ?_)
    refine x_eq (show vOr (sV σ) (bt (mk (vRd (sV σ)) (vN (sV σ)))) = vSafe (sV σ) 1 from vOr_safe hn6) ?_
    refine x_istore_n (pc := 24) (L' := [(2, .int (vSafe (sV σ) 1)), (0, .ref (t.1 0)), (1, .int x1)]) C dX11_fewest_24 (by decide) rfl ?_
    refine x_aload_n (pc := 25) C 1 dX11_fewest_25 rfl ?_
    refine g_main_thought (pc := 26) C E q2_3 dX11_fewest_26 ?_
    refine x_aload_n (pc := 29) C 1 dX11_fewest_29 rfl ?_
    refine g_main_now (pc := 30) C E q2_1 dX11_fewest_30 ?_
    refine x_callV (pc := 33) C E [.ref (t.1 (7 + 0))] [] (c_think t h) m_X10_become q36_4 (xo_World (i := 2) (by omega)) rfl (by decide) (Nat.le_of_ble_eq_true rfl) dX11_fewest_33 rfl (fun r M33 hc33 => ?_)
    obtain ⟨rfl, hR33, hV33, hO33⟩ := hc33
    show XV κ (xP (wC t) M33) 36 _ []
    refine x_iconst (pc := 36) (v := (nI 0)) C dX11_fewest_36 (by decide) ?_
    refine x_istore_n (pc := 37) (L' := [(3, .int (nI 0)), (2, .int (vSafe (sV σ) 1)), (0, .ref (t.1 0)), (1, .int x1)]) C dX11_fewest_37 (by decide) rfl ?_
    have loop38 : ∀ (k n : Nat) (y : Int32) (Mx : MM) , n + k = 4 → y = nI n → RC σ Mx ∧ VC 2 (sV σ) Mx → fwF σ x1 (vSafe (sV σ) 1) n k = a_fewest σ x1 → XV κ (xP (wC t) Mx) 38 [(3, .int y), (2, .int (vSafe (sV σ) 1)), (0, .ref (t.1 0)), (1, .int x1)] [] := by
      intro k
      induction k with
        | zero =>
          intro n y Mx  hcnt ey eMx hg
          subst ey
          obtain rfl : 4 = n := by omega
          refine x_iload_n (pc := 38) C 0 dX11_fewest_38 rfl ?_
          refine x_iconst (pc := 39) (v := (nI 3)) C dX11_fewest_39 (by decide) ?_
          refine x_icmp_gt_t (pc := 40) C 61 dX11_fewest_40 (by decide) (by decide) ?_
          refine x_iconst (pc := 61) (v := (-1)) C dX11_fewest_61 rfl ?_
          exact x_iret (pc := 62) C X dX11_fewest_62 (fia hg.symm eMx.1)
        | succ k ih =>
          intro n y Mx  hcnt ey eMx hg
          subst ey
          have hi38 : n < 4 := by omega
          refine x_iload_n (pc := 38) C 0 dX11_fewest_38 rfl ?_
          refine x_iconst (pc := 39) (v := (nI 3)) C dX11_fewest_39 (by decide) ?_
          refine x_icmp_gt_f (pc := 40) C 61 dX11_fewest_40 (by decide) (fun hh => by rw [i_lt, nI_toInt (by omega), nI_toInt (by omega)] at hh; omega) ?_
          refine x_aload_n (pc := 43) C 2 dX11_fewest_43 rfl ?_
          refine x_iload_n (pc := 44) C 1 dX11_fewest_44 rfl ?_
          refine x_iload_n (pc := 45) C 3 dX11_fewest_45 rfl ?_
          refine x_iload_n (pc := 46) C 0 dX11_fewest_46 rfl ?_
          refine x_callV (pc := 47) C E [.int (vSafe (sV σ) 1), .int x1, .int (nI n)] [] (c_cs t x1 (vSafe (sV σ) 1) n (by omega) _ _ eMx.1 eMx.2 rfl) m_X11_comesToSafe q37_7 xo_main rfl (by omega) (Nat.le_of_ble_eq_true rfl) dX11_fewest_47 rfl (fun r M47 hc47 => ?_)
          obtain ⟨rfl, hR47, hV47, hO47⟩ := hc47
          obtain ⟨K, hK, eK⟩ := inB_of (x := x1) (n := 7) (by rw [inB_t]; have := of_decide_eq_true h4; omega) (by omega)
          rw [show csX σ x1 (vSafe (sV σ) 1) n (sV σ) = mkS σ x1 (vSafe (sV σ) 1) n (sV σ) from (by rw [eK]; exact csX_eq (by omega) n (by omega) _ hn6)]
          show XV κ (xP (wC t) M47) 50 _ [.int (b2i (mkS σ x1 (vSafe (sV σ) 1) n (sV σ)))]
          refine x_ifb_eq (pc := 50) C 55 dX11_fewest_50 (by decide) (fun h50 => ?_) (fun h50 => ?_)
          · refine x_iinc (pc := 55) (v := nI (n + 1)) (L' := [(3, .int (nI (n + 1))), (2, .int (vSafe (sV σ) 1)), (0, .ref (t.1 0)), (1, .int x1)]) C 0 dX11_fewest_55 rfl (nI_1 _) (by decide) rfl ?_
            refine x_goto (pc := 58) C 38 dX11_fewest_58 (by decide) ?_
            refine x_sub [0, 1, 2, 3] rfl ?_
            exact ih (n + 1) _ _ (by omega) rfl ⟨hR47, hV47⟩ (by rw [← hg, fwF, if_neg (by rw [h50]; decide)])
          · refine x_iload_n (pc := 53) C 0 dX11_fewest_53 rfl ?_
            exact x_iret (pc := 54) C X dX11_fewest_54 (fia (hg.symm.trans (by rw [fwF, if_pos h50])) hR47)
    refine x_sub [0, 1, 2, 3] rfl ?_
    exact loop38 4 0 _ _ (by omega) rfl ⟨hR33, hV33⟩ (by unfold a_fewest; rw [if_neg (fun hh => hh (of_decide_eq_true h4))])
  · refine x_bipush (pc := 7) (v := (-2)) C dX11_fewest_7 rfl ?_
    exact x_iret (pc := 9) C X dX11_fewest_9 (fia (by
          unfold a_fewest
          repeat (first | with_reducible rfl | (refine (if_pos ?_).trans ?_; ((try simp only [inB_t, inB_f, i_lt, i_le, i_eq, ne_eq, Bool.not_eq_true, Bool.not_eq_false, hpB, decide_eq_true_eq, decide_eq_false_iff_not, li_0, li_1, li_2, li_3, li_4, li_5, li_6, li_7, li_8, li_9, li_10, li_20, li_40, li_99, li_100, li_255, li_899, li_999, li_m1, li_m2, li_m3, li_m4, li_m11, li_m12, li_m13, li_m14, li_m100] at h4 ⊢) <;> omega)) | (refine (if_neg ?_).trans ?_; ((try simp only [inB_t, inB_f, i_lt, i_le, i_eq, ne_eq, Bool.not_eq_true, Bool.not_eq_false, hpB, decide_eq_true_eq, decide_eq_false_iff_not, li_0, li_1, li_2, li_3, li_4, li_5, li_6, li_7, li_8, li_9, li_10, li_20, li_40, li_99, li_100, li_255, li_899, li_999, li_m1, li_m2, li_m3, li_m4, li_m11, li_m12, li_m13, li_m14, li_m100] at h4 ⊢) <;> omega)) | fail)
          all_goals (first | with_reducible rfl | (exfalso; ((try simp only [inB_t, inB_f, i_lt, i_le, i_eq, ne_eq, Bool.not_eq_true, Bool.not_eq_false, hpB, decide_eq_true_eq, decide_eq_false_iff_not, li_0, li_1, li_2, li_3, li_4, li_5, li_6, li_7, li_8, li_9, li_10, li_20, li_40, li_99, li_100, li_255, li_899, li_999, li_m1, li_m2, li_m3, li_m4, li_m11, li_m12, li_m13, li_m14, li_m100] at h4 ⊢) <;> omega)))) h)

