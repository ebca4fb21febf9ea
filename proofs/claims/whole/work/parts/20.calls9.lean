def ktX (σ : SV) (s a d k : Nat) : Bool := ctX σ (vR (sV σ)) (vKin (sV σ) d k) s a d
def ntX (σ : SV) (s a d k : Nat) : Bool := ctX σ (vR (sV σ)) (vNum (sV σ) d (nI k)) s a d
def dtX (σ : SV) (s d e : Nat) : Bool := !decide (e = d) && ctX σ (vR (sV σ)) (sV σ) s e d
def ttX (σ : SV) (s a d q : Nat) : Bool := ctX σ q (sV σ) s a d
theorem rc_th {σ : SV} {M : MM} (h : RC σ M) {a b : Nat} {x : Int32} (ha : 98 ≤ a) : RC σ (mu M a b x) := rc_frame h (fun c e hr => by unfold rel at hr; rw [mu_n _ _ _ _ (by omega)])
set_option maxRecDepth 100000 in
set_option maxHeartbeats 800000 in
theorem c_X11_kindsTold (t : CT) {σ : SV} {M : MM} (h : RC σ M){s : Nat} (hs : s < 4) (hss : (sH σ s).1 ≠ -1) (h8 : (sH σ s).2.1 = 8) {d : Nat} (hd : d < vN (sV σ)) {a : Nat} (ha : a < vN (sV σ)) : XMet (wC t) yX11_kindsTold cX11_kindsTold 6 (some .int) 8 [.ref (t.1 0), .ref (t.1 (54 + 2 * s)), .int (nI d), .int (nI a)] M (aR σ (mk (ktX σ s a d) (6))) := by
  refine x_met RX11 (by decide) rfl (Nat.le_of_ble_eq_true rfl) (fun κ C X E => ?_)
  refine x_L (L' := [(0, .ref (t.1 0)), (1, .ref (t.1 (54 + 2 * s))), (2, .int (nI d)), (3, .int (nI a))]) rfl ?_
  have hn6 := rc_n6 h
  have hq6 := rc_q6 h
  have hq := rc_q h
  have hN6 := h.1.1
  have hB := h.1.2.1
  have hs40 := (h.1.2.2.2.2 s hs).1
  refine x_iconst (pc := 0) (v := 0) C dX11_kindsTold_0 rfl ?_
  refine x_istore (pc := 1) (L' := [(4, .int 0), (0, .ref (t.1 0)), (1, .ref (t.1 (54 + 2 * s))), (2, .int (nI d)), (3, .int (nI a))]) C dX11_kindsTold_1 (by decide) rfl ?_
  refine x_iconst (pc := 3) (v := 0) C dX11_kindsTold_3 rfl ?_
  refine x_istore (pc := 4) (L' := [(5, .int 0), (4, .int 0), (0, .ref (t.1 0)), (1, .ref (t.1 (54 + 2 * s))), (2, .int (nI d)), (3, .int (nI a))]) C dX11_kindsTold_4 (by decide) rfl ?_
  have loop6 : ∀ (k c : Nat) (x : Int32) (y : Int32) (Mx : MM) , c + k = 6 → x = mk (ktX σ s a d) c → y = nI c → RC σ Mx → XV κ (xP (wC t) Mx) 6 [(5, .int y), (4, .int x), (0, .ref (t.1 0)), (1, .ref (t.1 (54 + 2 * s))), (2, .int (nI d)), (3, .int (nI a))] [] := by
    intro k
    induction k with
      | zero =>
        intro c x y Mx  hcnt ex ey eMx
        subst ex
        subst ey
        obtain rfl : 6 = c := by omega
        refine x_iload (pc := 6) C 0 dX11_kindsTold_6 rfl ?_
        refine x_bipush (pc := 8) (v := (nI 6)) C dX11_kindsTold_8 (by decide) ?_
        refine x_icmp_ge_t (pc := 10) C 72 dX11_kindsTold_10 (by decide) (nI_le (by omega) (by omega)) ?_
        refine x_iload (pc := 72) C 1 dX11_kindsTold_72 rfl ?_
        exact x_iret (pc := 74) C X dX11_kindsTold_74 ⟨rfl, eMx⟩
      | succ k ih =>
        intro c x y Mx  hcnt ex ey eMx
        subst ex
        subst ey
        have hi6 : c < 6 := by omega
        refine x_iload (pc := 6) C 0 dX11_kindsTold_6 rfl ?_
        refine x_bipush (pc := 8) (v := (nI 6)) C dX11_kindsTold_8 (by decide) ?_
        refine x_icmp_ge_f (pc := 10) C 72 dX11_kindsTold_10 (by decide) (nI_ge (by omega) (by omega)) ?_
        refine x_aload_n (pc := 13) C 2 dX11_kindsTold_13 rfl ?_
        refine g_main_thought (pc := 14) C E q2_3 dX11_kindsTold_14 ?_
        refine x_aload_n (pc := 17) C 2 dX11_kindsTold_17 rfl ?_
        refine g_main_now (pc := 18) C E q2_1 dX11_kindsTold_18 ?_
        refine x_callV (pc := 21) C E [.ref (t.1 (7 + 0))] [] (c_think t eMx) m_X10_become q36_4 (xo_World (i := 2) (by omega)) rfl (by decide) (Nat.le_of_ble_eq_true rfl) dX11_kindsTold_21 rfl (fun r M21 hc21 => ?_)
        obtain ⟨rfl, hR21, hV21, hO21⟩ := hc21
        show XV κ (xP (wC t) M21) 24 _ []
        refine x_aload_n (pc := 24) C 2 dX11_kindsTold_24 rfl ?_
        refine g_main_thought (pc := 25) C E q2_3 dX11_kindsTold_25 ?_
        refine g_World_disks (pc := 28) C E (i := 2) (by omega) q12_15 dX11_kindsTold_28 ?_
        refine x_iload_n (pc := 31) C 4 dX11_kindsTold_31 rfl ?_
        refine l_disks (pc := 32) C E (i := 2) (by omega) (by omega) dX11_kindsTold_32 ?_
        refine x_aload_n (pc := 33) C 2 dX11_kindsTold_33 rfl ?_
        refine g_main_kinds (pc := 34) C E q1_13 dX11_kindsTold_34 ?_
        refine x_iload (pc := 37) C 0 dX11_kindsTold_37 rfl ?_
        refine l_kinds (pc := 39) C E (by omega) dX11_kindsTold_39 ?_
        have e13 : t.1 (13 + c) = t.1 (13 + (nI c).toNatClampNeg) := by rw [nI_clamp (by omega)]
        rw [e13]
        refine p_Disk_kind (pc := 40) C E (v := (nI c)) (by omega) q20_5 dX11_kindsTold_40 ?_
        have hR40 := rc_th (σ := σ) (a := 62 + 3 * (6 * 2 + d)) (b := 0) (x := nI c) hR21 (by omega)
        have hV40 := vc_kin hV21 (by decide) hd hi6
        refine x_aload_n (pc := 43) C 2 dX11_kindsTold_43 rfl ?_
        refine x_aload_n (pc := 44) C 3 dX11_kindsTold_44 rfl ?_
        refine x_iload_n (pc := 45) C 4 dX11_kindsTold_45 rfl ?_
        refine x_iload_n (pc := 46) C 5 dX11_kindsTold_46 rfl ?_
        refine x_aload_n (pc := 47) C 2 dX11_kindsTold_47 rfl ?_
        refine x_callV (pc := 48) C E [] [.int (nI a), .int (nI d), .ref (t.1 (54 + 2 * s)), .ref (t.1 0)] (c_X11_rule t hR40) m_X11_rule q23_15 xo_main rfl (by decide) (Nat.le_of_ble_eq_true rfl) dX11_kindsTold_48 rfl (k_A ?_)
        refine x_callV (pc := 51) C E [.ref (t.1 (54 + 2 * s)), .int (nI d), .int (nI a), .ref (t.1 (19 + 5 * (vR (sV σ))))] [] (c_X11_comesToTold t hR40 hs hss h8 (u := (vKin (sV σ) d c)) hV40 (a := a) (d := d) (by first | exact ha | omega) (by first | exact hd | omega) (q := (vR (sV σ))) (rc_q hR40)) m_X11_comesToTold q41_13 xo_main rfl (by decide) (Nat.le_of_ble_eq_true rfl) dX11_kindsTold_51 rfl (fun r M51 hc51 => ?_)
        obtain ⟨rfl, hR51⟩ := hc51
        show XV κ (xP (wC t) M51) 54 _ [.int (b2i (ktX σ s a d c))]
        refine x_ifb_eq (pc := 54) C 66 dX11_kindsTold_54 (by decide) (fun h54 => ?_) (fun h54 => ?_)
        · refine x_iinc (pc := 66) (v := nI (c + 1)) (L' := [(5, .int (nI (c + 1))), (4, .int (mk (ktX σ s a d) c)), (0, .ref (t.1 0)), (1, .ref (t.1 (54 + 2 * s))), (2, .int (nI d)), (3, .int (nI a))]) C 0 dX11_kindsTold_66 rfl (nI_1 _) (by decide) rfl ?_
          refine x_goto (pc := 69) C 6 dX11_kindsTold_69 (by decide) ?_
          refine x_sub [0, 1, 2, 3, 4, 5] rfl ?_
          exact ih (c + 1) _ _ _ (by omega) (by first | exact (mk_f (p := ktX σ s a d) (n := c) (by first | exact h54 | simpa using h54)).symm | exact mk_t (p := ktX σ s a d) (n := c) (by first | exact h54 | simpa using h54)) rfl (by assumption)
        · refine x_iload (pc := 57) C 1 dX11_kindsTold_57 rfl ?_
          refine x_iconst (pc := 59) (v := 1) C dX11_kindsTold_59 rfl ?_
          refine x_iload (pc := 60) C 0 dX11_kindsTold_60 rfl ?_
          refine x_ishl (pc := 62) C dX11_kindsTold_62 ?_
          refine x_ior (pc := 63) C dX11_kindsTold_63 ?_
          refine x_istore (pc := 64) (L' := [(4, .int ((mk (ktX σ s a d) c) ||| (1 <<< ((nI c) &&& 31)))), (5, .int (nI c)), (0, .ref (t.1 0)), (1, .ref (t.1 (54 + 2 * s))), (2, .int (nI d)), (3, .int (nI a))]) C dX11_kindsTold_64 (by decide) rfl ?_
          refine x_iinc (pc := 66) (v := nI (c + 1)) (L' := [(5, .int (nI (c + 1))), (4, .int ((mk (ktX σ s a d) c) ||| (1 <<< ((nI c) &&& 31)))), (0, .ref (t.1 0)), (1, .ref (t.1 (54 + 2 * s))), (2, .int (nI d)), (3, .int (nI a))]) C 1 dX11_kindsTold_66 rfl (nI_1 _) (by decide) rfl ?_
          refine x_goto (pc := 69) C 6 dX11_kindsTold_69 (by decide) ?_
          refine x_sub [0, 1, 2, 3, 4, 5] rfl ?_
          exact ih (c + 1) _ _ _ (by omega) (by first | exact (mk_f (p := ktX σ s a d) (n := c) (by first | exact h54 | simpa using h54)).symm | exact mk_t (p := ktX σ s a d) (n := c) (by first | exact h54 | simpa using h54)) rfl (by assumption)
  refine x_sub [0, 1, 2, 3, 4, 5] rfl ?_
  exact loop6 (6) 0 _ _ M (by omega) rfl rfl h

set_option maxRecDepth 100000 in
set_option maxHeartbeats 800000 in
theorem c_X11_numbersTold (t : CT) {σ : SV} {M : MM} (h : RC σ M){s : Nat} (hs : s < 4) (hss : (sH σ s).1 ≠ -1) (h8 : (sH σ s).2.1 = 8) {d : Nat} (hd : d < vN (sV σ)) {a : Nat} (ha : a < vN (sV σ)) : XMet (wC t) yX11_numbersTold cX11_numbersTold 6 (some .int) 8 [.ref (t.1 0), .ref (t.1 (54 + 2 * s)), .int (nI d), .int (nI a)] M (aR σ (mk (ntX σ s a d) (10))) := by
  refine x_met RX11 (by decide) rfl (Nat.le_of_ble_eq_true rfl) (fun κ C X E => ?_)
  refine x_L (L' := [(0, .ref (t.1 0)), (1, .ref (t.1 (54 + 2 * s))), (2, .int (nI d)), (3, .int (nI a))]) rfl ?_
  have hn6 := rc_n6 h
  have hq6 := rc_q6 h
  have hq := rc_q h
  have hN6 := h.1.1
  have hB := h.1.2.1
  have hs40 := (h.1.2.2.2.2 s hs).1
  refine x_iconst (pc := 0) (v := 0) C dX11_numbersTold_0 rfl ?_
  refine x_istore (pc := 1) (L' := [(4, .int 0), (0, .ref (t.1 0)), (1, .ref (t.1 (54 + 2 * s))), (2, .int (nI d)), (3, .int (nI a))]) C dX11_numbersTold_1 (by decide) rfl ?_
  refine x_iconst (pc := 3) (v := 0) C dX11_numbersTold_3 rfl ?_
  refine x_istore (pc := 4) (L' := [(5, .int 0), (4, .int 0), (0, .ref (t.1 0)), (1, .ref (t.1 (54 + 2 * s))), (2, .int (nI d)), (3, .int (nI a))]) C dX11_numbersTold_4 (by decide) rfl ?_
  have loop6 : ∀ (k c : Nat) (x : Int32) (y : Int32) (Mx : MM) , c + k = 10 → x = mk (ntX σ s a d) c → y = nI c → RC σ Mx → XV κ (xP (wC t) Mx) 6 [(5, .int y), (4, .int x), (0, .ref (t.1 0)), (1, .ref (t.1 (54 + 2 * s))), (2, .int (nI d)), (3, .int (nI a))] [] := by
    intro k
    induction k with
      | zero =>
        intro c x y Mx  hcnt ex ey eMx
        subst ex
        subst ey
        obtain rfl : 10 = c := by omega
        refine x_iload (pc := 6) C 0 dX11_numbersTold_6 rfl ?_
        refine x_bipush (pc := 8) (v := (nI 10)) C dX11_numbersTold_8 (by decide) ?_
        refine x_icmp_ge_t (pc := 10) C 67 dX11_numbersTold_10 (by decide) (nI_le (by omega) (by omega)) ?_
        refine x_iload (pc := 67) C 1 dX11_numbersTold_67 rfl ?_
        exact x_iret (pc := 69) C X dX11_numbersTold_69 ⟨rfl, eMx⟩
      | succ k ih =>
        intro c x y Mx  hcnt ex ey eMx
        subst ex
        subst ey
        have hi6 : c < 10 := by omega
        refine x_iload (pc := 6) C 0 dX11_numbersTold_6 rfl ?_
        refine x_bipush (pc := 8) (v := (nI 10)) C dX11_numbersTold_8 (by decide) ?_
        refine x_icmp_ge_f (pc := 10) C 67 dX11_numbersTold_10 (by decide) (nI_ge (by omega) (by omega)) ?_
        refine x_aload_n (pc := 13) C 2 dX11_numbersTold_13 rfl ?_
        refine g_main_thought (pc := 14) C E q2_3 dX11_numbersTold_14 ?_
        refine x_aload_n (pc := 17) C 2 dX11_numbersTold_17 rfl ?_
        refine g_main_now (pc := 18) C E q2_1 dX11_numbersTold_18 ?_
        refine x_callV (pc := 21) C E [.ref (t.1 (7 + 0))] [] (c_think t eMx) m_X10_become q36_4 (xo_World (i := 2) (by omega)) rfl (by decide) (Nat.le_of_ble_eq_true rfl) dX11_numbersTold_21 rfl (fun r M21 hc21 => ?_)
        obtain ⟨rfl, hR21, hV21, hO21⟩ := hc21
        show XV κ (xP (wC t) M21) 24 _ []
        refine x_aload_n (pc := 24) C 2 dX11_numbersTold_24 rfl ?_
        refine g_main_thought (pc := 25) C E q2_3 dX11_numbersTold_25 ?_
        refine g_World_disks (pc := 28) C E (i := 2) (by omega) q12_15 dX11_numbersTold_28 ?_
        refine x_iload_n (pc := 31) C 4 dX11_numbersTold_31 rfl ?_
        refine l_disks (pc := 32) C E (i := 2) (by omega) (by omega) dX11_numbersTold_32 ?_
        refine x_iload (pc := 33) C 0 dX11_numbersTold_33 rfl ?_
        refine p_Disk_number (pc := 35) C E (by omega) q12_16 dX11_numbersTold_35 ?_
        have hR40 := rc_th (σ := σ) (a := 62 + 3 * (6 * 2 + d)) (b := 1) (x := nI c) hR21 (by omega)
        have hV40 := vc_num hV21 (by decide) hd (nI c)
        refine x_aload_n (pc := 38) C 2 dX11_numbersTold_38 rfl ?_
        refine x_aload_n (pc := 39) C 3 dX11_numbersTold_39 rfl ?_
        refine x_iload_n (pc := 40) C 4 dX11_numbersTold_40 rfl ?_
        refine x_iload_n (pc := 41) C 5 dX11_numbersTold_41 rfl ?_
        refine x_aload_n (pc := 42) C 2 dX11_numbersTold_42 rfl ?_
        refine x_callV (pc := 43) C E [] [.int (nI a), .int (nI d), .ref (t.1 (54 + 2 * s)), .ref (t.1 0)] (c_X11_rule t hR40) m_X11_rule q23_15 xo_main rfl (by decide) (Nat.le_of_ble_eq_true rfl) dX11_numbersTold_43 rfl (k_A ?_)
        refine x_callV (pc := 46) C E [.ref (t.1 (54 + 2 * s)), .int (nI d), .int (nI a), .ref (t.1 (19 + 5 * (vR (sV σ))))] [] (c_X11_comesToTold t hR40 hs hss h8 (u := (vNum (sV σ) d (nI c))) hV40 (a := a) (d := d) (by first | exact ha | omega) (by first | exact hd | omega) (q := (vR (sV σ))) (rc_q hR40)) m_X11_comesToTold q41_13 xo_main rfl (by decide) (Nat.le_of_ble_eq_true rfl) dX11_numbersTold_46 rfl (fun r M46 hc46 => ?_)
        obtain ⟨rfl, hR46⟩ := hc46
        show XV κ (xP (wC t) M46) 49 _ [.int (b2i (ntX σ s a d c))]
        refine x_ifb_eq (pc := 49) C 61 dX11_numbersTold_49 (by decide) (fun h49 => ?_) (fun h49 => ?_)
        · refine x_iinc (pc := 61) (v := nI (c + 1)) (L' := [(5, .int (nI (c + 1))), (4, .int (mk (ntX σ s a d) c)), (0, .ref (t.1 0)), (1, .ref (t.1 (54 + 2 * s))), (2, .int (nI d)), (3, .int (nI a))]) C 0 dX11_numbersTold_61 rfl (nI_1 _) (by decide) rfl ?_
          refine x_goto (pc := 64) C 6 dX11_numbersTold_64 (by decide) ?_
          refine x_sub [0, 1, 2, 3, 4, 5] rfl ?_
          exact ih (c + 1) _ _ _ (by omega) (by first | exact (mk_f (p := ntX σ s a d) (n := c) (by first | exact h49 | simpa using h49)).symm | exact mk_t (p := ntX σ s a d) (n := c) (by first | exact h49 | simpa using h49)) rfl (by assumption)
        · refine x_iload (pc := 52) C 1 dX11_numbersTold_52 rfl ?_
          refine x_iconst (pc := 54) (v := 1) C dX11_numbersTold_54 rfl ?_
          refine x_iload (pc := 55) C 0 dX11_numbersTold_55 rfl ?_
          refine x_ishl (pc := 57) C dX11_numbersTold_57 ?_
          refine x_ior (pc := 58) C dX11_numbersTold_58 ?_
          refine x_istore (pc := 59) (L' := [(4, .int ((mk (ntX σ s a d) c) ||| (1 <<< ((nI c) &&& 31)))), (5, .int (nI c)), (0, .ref (t.1 0)), (1, .ref (t.1 (54 + 2 * s))), (2, .int (nI d)), (3, .int (nI a))]) C dX11_numbersTold_59 (by decide) rfl ?_
          refine x_iinc (pc := 61) (v := nI (c + 1)) (L' := [(5, .int (nI (c + 1))), (4, .int ((mk (ntX σ s a d) c) ||| (1 <<< ((nI c) &&& 31)))), (0, .ref (t.1 0)), (1, .ref (t.1 (54 + 2 * s))), (2, .int (nI d)), (3, .int (nI a))]) C 1 dX11_numbersTold_61 rfl (nI_1 _) (by decide) rfl ?_
          refine x_goto (pc := 64) C 6 dX11_numbersTold_64 (by decide) ?_
          refine x_sub [0, 1, 2, 3, 4, 5] rfl ?_
          exact ih (c + 1) _ _ _ (by omega) (by first | exact (mk_f (p := ntX σ s a d) (n := c) (by first | exact h49 | simpa using h49)).symm | exact mk_t (p := ntX σ s a d) (n := c) (by first | exact h49 | simpa using h49)) rfl (by assumption)
  refine x_sub [0, 1, 2, 3, 4, 5] rfl ?_
  exact loop6 (10) 0 _ _ M (by omega) rfl rfl h

set_option maxRecDepth 100000 in
set_option maxHeartbeats 800000 in
theorem c_X11_disksTold (t : CT) {σ : SV} {M : MM} (h : RC σ M){s : Nat} (hs : s < 4) (hss : (sH σ s).1 ≠ -1) (h8 : (sH σ s).2.1 = 8) {d : Nat} (hd : d < vN (sV σ)) : XMet (wC t) yX11_disksTold cX11_disksTold 5 (some .int) 8 [.ref (t.1 0), .ref (t.1 (54 + 2 * s)), .int (nI d)] M (aR σ (mk (dtX σ s d) (vN (sV σ)))) := by
  refine x_met RX11 (by decide) rfl (Nat.le_of_ble_eq_true rfl) (fun κ C X E => ?_)
  refine x_L (L' := [(0, .ref (t.1 0)), (1, .ref (t.1 (54 + 2 * s))), (2, .int (nI d))]) rfl ?_
  have hn6 := rc_n6 h
  have hq6 := rc_q6 h
  have hq := rc_q h
  have hN6 := h.1.1
  have hB := h.1.2.1
  have hs40 := (h.1.2.2.2.2 s hs).1
  refine x_iconst (pc := 0) (v := 0) C dX11_disksTold_0 rfl ?_
  refine x_istore_n (pc := 1) (L' := [(3, .int 0), (0, .ref (t.1 0)), (1, .ref (t.1 (54 + 2 * s))), (2, .int (nI d))]) C dX11_disksTold_1 (by decide) rfl ?_
  refine x_iconst (pc := 2) (v := 0) C dX11_disksTold_2 rfl ?_
  refine x_istore (pc := 3) (L' := [(4, .int 0), (3, .int 0), (0, .ref (t.1 0)), (1, .ref (t.1 (54 + 2 * s))), (2, .int (nI d))]) C dX11_disksTold_3 (by decide) rfl ?_
  have loop5 : ∀ (k e : Nat) (x : Int32) (y : Int32) (Mx : MM) , e + k = vN (sV σ) → x = mk (dtX σ s d) e → y = nI e → RC σ Mx → XV κ (xP (wC t) Mx) 5 [(4, .int y), (3, .int x), (0, .ref (t.1 0)), (1, .ref (t.1 (54 + 2 * s))), (2, .int (nI d))] [] := by
    intro k
    induction k with
      | zero =>
        intro e x y Mx  hcnt ex ey eMx
        subst ex
        subst ey
        obtain rfl : vN (sV σ) = e := by omega
        refine x_iload (pc := 5) C 0 dX11_disksTold_5 rfl ?_
        refine x_aload_n (pc := 7) C 2 dX11_disksTold_7 rfl ?_
        refine g_main_now (pc := 8) C E q2_1 dX11_disksTold_8 ?_
        refine g_World_size (pc := 11) C E (i := 0) (by omega) q19_2 dX11_disksTold_11 ?_
        refine x_eq (show Mx (7 + 0) 2 = nI (vN (sV σ)) from rc_size eMx) ?_
        refine x_icmp_ge_t (pc := 14) C 62 dX11_disksTold_14 (by decide) (nI_le (by omega) (by omega)) ?_
        refine x_iload_n (pc := 62) C 1 dX11_disksTold_62 rfl ?_
        exact x_iret (pc := 63) C X dX11_disksTold_63 ⟨rfl, eMx⟩
      | succ k ih =>
        intro e x y Mx  hcnt ex ey eMx
        subst ex
        subst ey
        have hi5 : e < vN (sV σ) := by omega
        refine x_iload (pc := 5) C 0 dX11_disksTold_5 rfl ?_
        refine x_aload_n (pc := 7) C 2 dX11_disksTold_7 rfl ?_
        refine g_main_now (pc := 8) C E q2_1 dX11_disksTold_8 ?_
        refine g_World_size (pc := 11) C E (i := 0) (by omega) q19_2 dX11_disksTold_11 ?_
        refine x_eq (show Mx (7 + 0) 2 = nI (vN (sV σ)) from rc_size eMx) ?_
        refine x_icmp_ge_f (pc := 14) C 62 dX11_disksTold_14 (by decide) (nI_ge (by omega) (by omega)) ?_
        refine x_aload_n (pc := 17) C 2 dX11_disksTold_17 rfl ?_
        refine g_main_thought (pc := 18) C E q2_3 dX11_disksTold_18 ?_
        refine x_aload_n (pc := 21) C 2 dX11_disksTold_21 rfl ?_
        refine g_main_now (pc := 22) C E q2_1 dX11_disksTold_22 ?_
        refine x_callV (pc := 25) C E [.ref (t.1 (7 + 0))] [] (c_think t eMx) m_X10_become q36_4 (xo_World (i := 2) (by omega)) rfl (by decide) (Nat.le_of_ble_eq_true rfl) dX11_disksTold_25 rfl (fun r M25 hc25 => ?_)
        obtain ⟨rfl, hR25, hV25, hO25⟩ := hc25
        show XV κ (xP (wC t) M25) 28 _ []
        refine x_iload (pc := 28) C 0 dX11_disksTold_28 rfl ?_
        refine x_iload_n (pc := 30) C 4 dX11_disksTold_30 rfl ?_
        refine x_icmp_eq (pc := 31) C 56 dX11_disksTold_31 (by decide) (fun h31 => ?_) (fun h31 => ?_)
        · refine x_iinc (pc := 56) (v := nI (e + 1)) (L' := [(4, .int (nI (e + 1))), (3, .int (mk (dtX σ s d) e)), (0, .ref (t.1 0)), (1, .ref (t.1 (54 + 2 * s))), (2, .int (nI d))]) C 0 dX11_disksTold_56 rfl (nI_1 _) (by decide) rfl ?_
          refine x_goto (pc := 59) C 5 dX11_disksTold_59 (by decide) ?_
          refine x_sub [0, 1, 2, 3, 4] rfl ?_
          exact ih (e + 1) _ _ _ (by omega) (by first | exact (mk_f (p := dtX σ s d) (n := e) (by unfold dtX; have he : e = d := (nI_eq (by omega) (by omega)).mp h31; rw [decide_eq_true he]; rfl)).symm | exact mk_t (p := dtX σ s d) (n := e) (by unfold dtX; have he : e = d := (nI_eq (by omega) (by omega)).mp h31; rw [decide_eq_true he]; rfl)) rfl (by assumption)
        · refine x_aload_n (pc := 34) C 2 dX11_disksTold_34 rfl ?_
          refine x_aload_n (pc := 35) C 3 dX11_disksTold_35 rfl ?_
          refine x_iload_n (pc := 36) C 4 dX11_disksTold_36 rfl ?_
          refine x_iload (pc := 37) C 0 dX11_disksTold_37 rfl ?_
          refine x_aload_n (pc := 39) C 2 dX11_disksTold_39 rfl ?_
          refine x_callV (pc := 40) C E [] [.int (nI e), .int (nI d), .ref (t.1 (54 + 2 * s)), .ref (t.1 0)] (c_X11_rule t hR25) m_X11_rule q23_15 xo_main rfl (by decide) (Nat.le_of_ble_eq_true rfl) dX11_disksTold_40 rfl (k_A ?_)
          refine x_callV (pc := 43) C E [.ref (t.1 (54 + 2 * s)), .int (nI d), .int (nI e), .ref (t.1 (19 + 5 * (vR (sV σ))))] [] (c_X11_comesToTold t hR25 hs hss h8 (u := sV σ) hV25 (a := e) (d := d) (by first | exact ha | omega) (by first | exact hd | omega) (q := (vR (sV σ))) (rc_q hR25)) m_X11_comesToTold q41_13 xo_main rfl (by decide) (Nat.le_of_ble_eq_true rfl) dX11_disksTold_43 rfl (fun r M43 hc43 => ?_)
          obtain ⟨rfl, hR43⟩ := hc43
          show XV κ (xP (wC t) M43) 46 _ [.int (b2i (ctX σ (vR (sV σ)) (sV σ) s e d))]
          refine x_ifb_eq (pc := 46) C 56 dX11_disksTold_46 (by decide) (fun h46 => ?_) (fun h46 => ?_)
          · refine x_iinc (pc := 56) (v := nI (e + 1)) (L' := [(4, .int (nI (e + 1))), (3, .int (mk (dtX σ s d) e)), (0, .ref (t.1 0)), (1, .ref (t.1 (54 + 2 * s))), (2, .int (nI d))]) C 0 dX11_disksTold_56 rfl (nI_1 _) (by decide) rfl ?_
            refine x_goto (pc := 59) C 5 dX11_disksTold_59 (by decide) ?_
            refine x_sub [0, 1, 2, 3, 4] rfl ?_
            exact ih (e + 1) _ _ _ (by omega) (by first | exact (mk_f (p := dtX σ s d) (n := e) (by unfold dtX; have hne : ¬ e = d := (fun hh => h31 (by rw [hh])); rw [decide_eq_false hne]; exact h46)).symm | exact mk_t (p := dtX σ s d) (n := e) (by unfold dtX; have hne : ¬ e = d := (fun hh => h31 (by rw [hh])); rw [decide_eq_false hne]; exact h46)) rfl (by assumption)
          · refine x_iload_n (pc := 49) C 1 dX11_disksTold_49 rfl ?_
            refine x_iconst (pc := 50) (v := 1) C dX11_disksTold_50 rfl ?_
            refine x_iload (pc := 51) C 0 dX11_disksTold_51 rfl ?_
            refine x_ishl (pc := 53) C dX11_disksTold_53 ?_
            refine x_ior (pc := 54) C dX11_disksTold_54 ?_
            refine x_istore_n (pc := 55) (L' := [(3, .int ((mk (dtX σ s d) e) ||| (1 <<< ((nI e) &&& 31)))), (4, .int (nI e)), (0, .ref (t.1 0)), (1, .ref (t.1 (54 + 2 * s))), (2, .int (nI d))]) C dX11_disksTold_55 (by decide) rfl ?_
            refine x_iinc (pc := 56) (v := nI (e + 1)) (L' := [(4, .int (nI (e + 1))), (3, .int ((mk (dtX σ s d) e) ||| (1 <<< ((nI e) &&& 31)))), (0, .ref (t.1 0)), (1, .ref (t.1 (54 + 2 * s))), (2, .int (nI d))]) C 1 dX11_disksTold_56 rfl (nI_1 _) (by decide) rfl ?_
            refine x_goto (pc := 59) C 5 dX11_disksTold_59 (by decide) ?_
            refine x_sub [0, 1, 2, 3, 4] rfl ?_
            exact ih (e + 1) _ _ _ (by omega) (by first | exact (mk_f (p := dtX σ s d) (n := e) (by unfold dtX; have hne : ¬ e = d := (fun hh => h31 (by rw [hh])); rw [decide_eq_false hne]; exact h46)).symm | exact mk_t (p := dtX σ s d) (n := e) (by unfold dtX; have hne : ¬ e = d := (fun hh => h31 (by rw [hh])); rw [decide_eq_false hne]; exact h46)) rfl (by assumption)
  refine x_sub [0, 1, 2, 3, 4] rfl ?_
  exact loop5 (vN (sV σ)) 0 _ _ M (by omega) rfl rfl h

set_option maxRecDepth 100000 in
set_option maxHeartbeats 800000 in
theorem c_X11_textsTold (t : CT) {σ : SV} {M : MM} (h : RC σ M){s : Nat} (hs : s < 4) (hss : (sH σ s).1 ≠ -1) (h8 : (sH σ s).2.1 = 8) {d : Nat} (hd : d < vN (sV σ)) {a : Nat} (ha : a < vN (sV σ)) : XMet (wC t) yX11_textsTold cX11_textsTold 6 (some .int) 8 [.ref (t.1 0), .ref (t.1 (54 + 2 * s)), .int (nI d), .int (nI a)] M (aR σ (mk (ttX σ s a d) (sN σ))) := by
  refine x_met RX11 (by decide) rfl (Nat.le_of_ble_eq_true rfl) (fun κ C X E => ?_)
  refine x_L (L' := [(0, .ref (t.1 0)), (1, .ref (t.1 (54 + 2 * s))), (2, .int (nI d)), (3, .int (nI a))]) rfl ?_
  have hn6 := rc_n6 h
  have hq6 := rc_q6 h
  have hq := rc_q h
  have hN6 := h.1.1
  have hB := h.1.2.1
  have hs40 := (h.1.2.2.2.2 s hs).1
  refine x_iconst (pc := 0) (v := 0) C dX11_textsTold_0 rfl ?_
  refine x_istore (pc := 1) (L' := [(4, .int 0), (0, .ref (t.1 0)), (1, .ref (t.1 (54 + 2 * s))), (2, .int (nI d)), (3, .int (nI a))]) C dX11_textsTold_1 (by decide) rfl ?_
  refine x_iconst (pc := 3) (v := 0) C dX11_textsTold_3 rfl ?_
  refine x_istore (pc := 4) (L' := [(5, .int 0), (4, .int 0), (0, .ref (t.1 0)), (1, .ref (t.1 (54 + 2 * s))), (2, .int (nI d)), (3, .int (nI a))]) C dX11_textsTold_4 (by decide) rfl ?_
  have loop6 : ∀ (k q : Nat) (x : Int32) (y : Int32) (Mx : MM) , q + k = sN σ → x = mk (ttX σ s a d) q → y = nI q → RC σ Mx → XV κ (xP (wC t) Mx) 6 [(5, .int y), (4, .int x), (0, .ref (t.1 0)), (1, .ref (t.1 (54 + 2 * s))), (2, .int (nI d)), (3, .int (nI a))] [] := by
    intro k
    induction k with
      | zero =>
        intro q x y Mx  hcnt ex ey eMx
        subst ex
        subst ey
        obtain rfl : sN σ = q := by omega
        refine x_iload (pc := 6) C 0 dX11_textsTold_6 rfl ?_
        refine x_aload_n (pc := 8) C 2 dX11_textsTold_8 rfl ?_
        refine g_main_textCount (pc := 9) C E q2_6 dX11_textsTold_9 ?_
        refine x_eq (show Mx 0 8 = nI (sN σ) from rc_tc eMx) ?_
        refine x_icmp_ge_t (pc := 12) C 58 dX11_textsTold_12 (by decide) (nI_le (by omega) (by omega)) ?_
        refine x_iload (pc := 58) C 1 dX11_textsTold_58 rfl ?_
        exact x_iret (pc := 60) C X dX11_textsTold_60 ⟨rfl, eMx⟩
      | succ k ih =>
        intro q x y Mx  hcnt ex ey eMx
        subst ex
        subst ey
        have hi6 : q < sN σ := by omega
        refine x_iload (pc := 6) C 0 dX11_textsTold_6 rfl ?_
        refine x_aload_n (pc := 8) C 2 dX11_textsTold_8 rfl ?_
        refine g_main_textCount (pc := 9) C E q2_6 dX11_textsTold_9 ?_
        refine x_eq (show Mx 0 8 = nI (sN σ) from rc_tc eMx) ?_
        refine x_icmp_ge_f (pc := 12) C 58 dX11_textsTold_12 (by decide) (nI_ge (by omega) (by omega)) ?_
        refine x_aload_n (pc := 15) C 2 dX11_textsTold_15 rfl ?_
        refine g_main_thought (pc := 16) C E q2_3 dX11_textsTold_16 ?_
        refine x_aload_n (pc := 19) C 2 dX11_textsTold_19 rfl ?_
        refine g_main_now (pc := 20) C E q2_1 dX11_textsTold_20 ?_
        refine x_callV (pc := 23) C E [.ref (t.1 (7 + 0))] [] (c_think t eMx) m_X10_become q36_4 (xo_World (i := 2) (by omega)) rfl (by decide) (Nat.le_of_ble_eq_true rfl) dX11_textsTold_23 rfl (fun r M23 hc23 => ?_)
        obtain ⟨rfl, hR23, hV23, hO23⟩ := hc23
        show XV κ (xP (wC t) M23) 26 _ []
        refine x_aload_n (pc := 26) C 2 dX11_textsTold_26 rfl ?_
        refine x_aload_n (pc := 27) C 3 dX11_textsTold_27 rfl ?_
        refine x_iload_n (pc := 28) C 4 dX11_textsTold_28 rfl ?_
        refine x_iload_n (pc := 29) C 5 dX11_textsTold_29 rfl ?_
        refine x_aload_n (pc := 30) C 2 dX11_textsTold_30 rfl ?_
        refine g_main_texts (pc := 31) C E q1_15 dX11_textsTold_31 ?_
        refine x_iload (pc := 34) C 0 dX11_textsTold_34 rfl ?_
        refine l_texts (pc := 36) C E (by omega) dX11_textsTold_36 ?_
        have hqn : q < sN σ := hi6
        refine x_callV (pc := 37) C E [.ref (t.1 (54 + 2 * s)), .int (nI d), .int (nI a), .ref (t.1 (19 + 5 * q))] [] (c_X11_comesToTold t hR23 hs hss h8 (u := sV σ) hV23 (a := a) (d := d) (by first | exact ha | omega) (by first | exact hd | omega) (q := q) hqn) m_X11_comesToTold q41_13 xo_main rfl (by decide) (Nat.le_of_ble_eq_true rfl) dX11_textsTold_37 rfl (fun r M37 hc37 => ?_)
        obtain ⟨rfl, hR37⟩ := hc37
        show XV κ (xP (wC t) M37) 40 _ [.int (b2i (ttX σ s a d q))]
        refine x_ifb_eq (pc := 40) C 52 dX11_textsTold_40 (by decide) (fun h40 => ?_) (fun h40 => ?_)
        · refine x_iinc (pc := 52) (v := nI (q + 1)) (L' := [(5, .int (nI (q + 1))), (4, .int (mk (ttX σ s a d) q)), (0, .ref (t.1 0)), (1, .ref (t.1 (54 + 2 * s))), (2, .int (nI d)), (3, .int (nI a))]) C 0 dX11_textsTold_52 rfl (nI_1 _) (by decide) rfl ?_
          refine x_goto (pc := 55) C 6 dX11_textsTold_55 (by decide) ?_
          refine x_sub [0, 1, 2, 3, 4, 5] rfl ?_
          exact ih (q + 1) _ _ _ (by omega) (by first | exact (mk_f (p := ttX σ s a d) (n := q) (by first | exact h40 | simpa using h40)).symm | exact mk_t (p := ttX σ s a d) (n := q) (by first | exact h40 | simpa using h40)) rfl (by assumption)
        · refine x_iload (pc := 43) C 1 dX11_textsTold_43 rfl ?_
          refine x_iconst (pc := 45) (v := 1) C dX11_textsTold_45 rfl ?_
          refine x_iload (pc := 46) C 0 dX11_textsTold_46 rfl ?_
          refine x_ishl (pc := 48) C dX11_textsTold_48 ?_
          refine x_ior (pc := 49) C dX11_textsTold_49 ?_
          refine x_istore (pc := 50) (L' := [(4, .int ((mk (ttX σ s a d) q) ||| (1 <<< ((nI q) &&& 31)))), (5, .int (nI q)), (0, .ref (t.1 0)), (1, .ref (t.1 (54 + 2 * s))), (2, .int (nI d)), (3, .int (nI a))]) C dX11_textsTold_50 (by decide) rfl ?_
          refine x_iinc (pc := 52) (v := nI (q + 1)) (L' := [(5, .int (nI (q + 1))), (4, .int ((mk (ttX σ s a d) q) ||| (1 <<< ((nI q) &&& 31)))), (0, .ref (t.1 0)), (1, .ref (t.1 (54 + 2 * s))), (2, .int (nI d)), (3, .int (nI a))]) C 1 dX11_textsTold_52 rfl (nI_1 _) (by decide) rfl ?_
          refine x_goto (pc := 55) C 6 dX11_textsTold_55 (by decide) ?_
          refine x_sub [0, 1, 2, 3, 4, 5] rfl ?_
          exact ih (q + 1) _ _ _ (by omega) (by first | exact (mk_f (p := ttX σ s a d) (n := q) (by first | exact h40 | simpa using h40)).symm | exact mk_t (p := ttX σ s a d) (n := q) (by first | exact h40 | simpa using h40)) rfl (by assumption)
  refine x_sub [0, 1, 2, 3, 4, 5] rfl ?_
  exact loop6 (sN σ) 0 _ _ M (by omega) rfl rfl h

