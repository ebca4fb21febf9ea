def ofX (A B : Nat → Int32) (f : Nat) : Bool := !decide (A f = B f)
def otX (w : WV) (d : Nat) (σ : SV) (s : Nat) : Int32 := mk (ofX (fun f => vC w d f) (sH σ s).2.2) 8
/-- a copy by the text q -/
def sCq (σ : SV) (q : Nat) (v : WV) (a b : Nat) : WV × Nat := lockW (vCp v a b (sT σ q 0) 8) 0
theorem sCq_eq (σ : SV) (q : Nat) (v : WV) (a b : Nat) : vCp v a b (sT σ q 0) 8 = sCq σ q v a b := by
  unfold sCq
  rw [lockW, if_pos rfl]
theorem sCq_rest (σ : SV) (q : Nat) (v : WV) (a b : Nat) : vN (sCq σ q v a b).1 = vN v := by
  rw [← sCq_eq]
  exact (vCp_n 8).1
def ctX (σ : SV) (q : Nat) (u : WV) (s a d : Nat) : Bool := (vRd u a && vRd u d) && decide (otX (sCq σ q u a d).1 d σ s = 0)
def bR (σ : SV) (b : Bool) : XF := fun r M' => r = some (.int (b2i b)) ∧ RC σ M'
theorem fib {σ : SV} {b b' : Bool} {M' : MM} (e : b = b') (h : RC σ M') : bR σ b (some (.int (b2i b'))) M' := by
  subst e
  exact ⟨rfl, h⟩
set_option maxRecDepth 100000 in
set_option maxHeartbeats 800000 in
theorem c_X11_otherwise (t : CT) (M : MM) {j : Nat} (hj : j < 21) {s : Nat} (hs : s < 4) {A B : Nat → Int32} (hA : ∀ f, f < 8 → M (63 + 3 * j) f = A f) (hB : ∀ f, f < 8 → M (55 + 2 * s) f = B f) : XMet (wC t) yX11_otherwise cX11_otherwise 4 (some .int) 1 [.ref (t.1 (62 + 3 * j)), .ref (t.1 (54 + 2 * s))] M (rI (mk (ofX A B) 8) M) := by
  refine x_met RX11 (by decide) rfl (Nat.le_of_ble_eq_true rfl) (fun κ C X E => ?_)
  refine x_L (L' := [(0, .ref (t.1 (62 + 3 * j))), (1, .ref (t.1 (54 + 2 * s)))]) rfl ?_
  refine x_iconst (pc := 0) (v := 0) C dX11_otherwise_0 rfl ?_
  refine x_istore_n (pc := 1) (L' := [(2, .int 0), (0, .ref (t.1 (62 + 3 * j))), (1, .ref (t.1 (54 + 2 * s)))]) C dX11_otherwise_1 (by decide) rfl ?_
  refine x_iconst (pc := 2) (v := (nI 0)) C dX11_otherwise_2 (by decide) ?_
  refine x_istore_n (pc := 3) (L' := [(3, .int (nI 0)), (2, .int 0), (0, .ref (t.1 (62 + 3 * j))), (1, .ref (t.1 (54 + 2 * s)))]) C dX11_otherwise_3 (by decide) rfl ?_
  have loop4 : ∀ (k f : Nat) (x : Int32) (y : Int32) , f + k = 8 → x = mk (ofX A B) f → y = nI f → XV κ (xP (wC t) M) 4 [(3, .int y), (2, .int x), (0, .ref (t.1 (62 + 3 * j))), (1, .ref (t.1 (54 + 2 * s)))] [] := by
    intro k
    induction k with
      | zero =>
        intro f x y  hcnt ex ey
        subst ex
        subst ey
        obtain rfl : 8 = f := by omega
        refine x_iload_n (pc := 4) C 0 dX11_otherwise_4 rfl ?_
        refine x_bipush (pc := 5) (v := (nI 8)) C dX11_otherwise_5 (by decide) ?_
        refine x_icmp_ge_t (pc := 7) C 37 dX11_otherwise_7 (by decide) (nI_le (by omega) (by omega)) ?_
        refine x_iload_n (pc := 37) C 1 dX11_otherwise_37 rfl ?_
        exact x_iret (pc := 38) C X dX11_otherwise_38 ⟨rfl, rfl⟩
      | succ k ih =>
        intro f x y  hcnt ex ey
        subst ex
        subst ey
        have hi4 : f < 8 := by omega
        refine x_iload_n (pc := 4) C 0 dX11_otherwise_4 rfl ?_
        refine x_bipush (pc := 5) (v := (nI 8)) C dX11_otherwise_5 (by decide) ?_
        refine x_icmp_ge_f (pc := 7) C 37 dX11_otherwise_7 (by decide) (nI_ge (by omega) (by omega)) ?_
        refine x_aload_n (pc := 10) C 2 dX11_otherwise_10 rfl ?_
        refine g_Disk_contents (pc := 11) C E hj q25_13 dX11_otherwise_11 ?_
        refine x_iload_n (pc := 14) C 0 dX11_otherwise_14 rfl ?_
        refine l_ct (pc := 15) C E hj (by omega) dX11_otherwise_15 ?_
        refine x_eq (show M (63 + 3 * j) f = A f from hA f hi4) ?_
        refine x_aload_n (pc := 16) C 3 dX11_otherwise_16 rfl ?_
        refine g_Sheet_row (pc := 17) C E hs q40_9 dX11_otherwise_17 ?_
        refine x_iload_n (pc := 20) C 0 dX11_otherwise_20 rfl ?_
        refine l_row (pc := 21) C E hs (by omega) dX11_otherwise_21 ?_
        refine x_eq (show M (55 + 2 * s) f = B f from hB f hi4) ?_
        refine x_icmp_eq (pc := 22) C 31 dX11_otherwise_22 (by decide) (fun h22 => ?_) (fun h22 => ?_)
        · refine x_iinc (pc := 31) (v := nI (f + 1)) (L' := [(3, .int (nI (f + 1))), (2, .int (mk (ofX A B) f)), (0, .ref (t.1 (62 + 3 * j))), (1, .ref (t.1 (54 + 2 * s)))]) C 0 dX11_otherwise_31 rfl (nI_1 _) (by decide) rfl ?_
          refine x_goto (pc := 34) C 4 dX11_otherwise_34 (by decide) ?_
          refine x_sub [0, 1, 2, 3] rfl ?_
          exact ih (f + 1) _ _ (by omega) (by first | exact (mk_f (p := ofX A B) (by simp [ofX, h22])).symm | exact mk_t (p := ofX A B) (by simp [ofX, h22])) rfl
        · refine x_iload_n (pc := 25) C 1 dX11_otherwise_25 rfl ?_
          refine x_iconst (pc := 26) (v := 1) C dX11_otherwise_26 rfl ?_
          refine x_iload_n (pc := 27) C 0 dX11_otherwise_27 rfl ?_
          refine x_ishl (pc := 28) C dX11_otherwise_28 ?_
          refine x_ior (pc := 29) C dX11_otherwise_29 ?_
          refine x_istore_n (pc := 30) (L' := [(2, .int ((mk (ofX A B) f) ||| (1 <<< ((nI f) &&& 31)))), (3, .int (nI f)), (0, .ref (t.1 (62 + 3 * j))), (1, .ref (t.1 (54 + 2 * s)))]) C dX11_otherwise_30 (by decide) rfl ?_
          refine x_iinc (pc := 31) (v := nI (f + 1)) (L' := [(3, .int (nI (f + 1))), (2, .int ((mk (ofX A B) f) ||| (1 <<< ((nI f) &&& 31)))), (0, .ref (t.1 (62 + 3 * j))), (1, .ref (t.1 (54 + 2 * s)))]) C 1 dX11_otherwise_31 rfl (nI_1 _) (by decide) rfl ?_
          refine x_goto (pc := 34) C 4 dX11_otherwise_34 (by decide) ?_
          refine x_sub [0, 1, 2, 3] rfl ?_
          exact ih (f + 1) _ _ (by omega) (by first | exact (mk_f (p := ofX A B) (by simp [ofX, h22])).symm | exact mk_t (p := ofX A B) (by simp [ofX, h22])) rfl
  refine x_sub [0, 1, 2, 3] rfl ?_
  exact loop4 8 0 _ _ (by omega) rfl rfl

set_option maxRecDepth 100000 in
set_option maxHeartbeats 800000 in
theorem c_X11_comesToTold (t : CT) {σ : SV} {M : MM} (h : RC σ M){s : Nat} (hs : s < 4) (hss : (sH σ s).1 ≠ -1) (h8 : (sH σ s).2.1 = 8) {u : WV} (hu : VC 2 u M) {a d : Nat} (ha : a < vN u) (hd : d < vN u) {q : Nat} (hqq : q < sN σ) : XMet (wC t) yX11_comesToTold cX11_comesToTold 5 (some .boolean) 7 [.ref (t.1 0), .ref (t.1 (54 + 2 * s)), .int (nI d), .int (nI a), .ref (t.1 (19 + 5 * q))] M (bR σ (ctX σ q u s a d)) := by
  refine x_met RX11 (by decide) rfl (Nat.le_of_ble_eq_true rfl) (fun κ C X E => ?_)
  refine x_L (L' := [(0, .ref (t.1 0)), (1, .ref (t.1 (54 + 2 * s))), (2, .int (nI d)), (3, .int (nI a)), (4, .ref (t.1 (19 + 5 * q)))]) rfl ?_
  have hn6 := rc_n6 h
  have hq6 := rc_q6 h
  have hq := rc_q h
  have hN6 := h.1.1
  have hB := h.1.2.1
  have hu6 := hu.1
  refine x_aload_n (pc := 0) C 0 dX11_comesToTold_0 rfl ?_
  refine g_main_thought (pc := 1) C E q2_3 dX11_comesToTold_1 ?_
  refine x_iload_n (pc := 4) C 3 dX11_comesToTold_4 rfl ?_
  refine x_iload_n (pc := 5) C 2 dX11_comesToTold_5 rfl ?_
  refine x_callV (pc := 6) C E [.int (nI a), .int (nI d)] [] (w_canCopy t (by decide : 2 < 3) hu (by omega) (by omega)) m_X10_canCopy q29_20 (xo_World (i := 2) (by omega)) rfl (by decide) (Nat.le_of_ble_eq_true rfl) dX11_comesToTold_6 rfl (k_I ?_)
  refine x_ifb_ne (pc := 9) C 14 dX11_comesToTold_9 (by decide) (fun h9 => ?_) (fun h9 => ?_)
  · refine x_aload_n (pc := 14) C 0 dX11_comesToTold_14 rfl ?_
    refine g_main_thought (pc := 15) C E q2_3 dX11_comesToTold_15 ?_
    refine x_iload_n (pc := 18) C 3 dX11_comesToTold_18 rfl ?_
    refine x_iload_n (pc := 19) C 2 dX11_comesToTold_19 rfl ?_
    refine x_aload (pc := 20) C 4 dX11_comesToTold_20 rfl ?_
    refine x_callV (pc := 22) C E [.int (nI a), .int (nI d), .ref (t.1 (19 + 5 * q))] [] (c_copyT t h hu (a := a) (b := d) (by omega) (by omega) hqq) m_X10_copyOnto q30_2 (xo_World (i := 2) (by omega)) rfl (by decide) (Nat.le_of_ble_eq_true rfl) dX11_comesToTold_22 rfl (fun r M22 hc22 => ?_)
    rw [sCq_eq] at hc22
    obtain ⟨rfl, hR22, hV22, hO22⟩ := hc22
    show XV κ (xP (wC t) M22) 25 _ [.int (nI (sCq σ q u a d).2)]
    refine x_pop (pc := 25) C dX11_comesToTold_25 rfl ?_
    refine x_aload_n (pc := 26) C 0 dX11_comesToTold_26 rfl ?_
    refine g_main_thought (pc := 27) C E q2_3 dX11_comesToTold_27 ?_
    refine g_World_disks (pc := 30) C E (i := 2) (by omega) q12_15 dX11_comesToTold_30 ?_
    refine x_iload_n (pc := 33) C 2 dX11_comesToTold_33 rfl ?_
    refine l_disks (pc := 34) C E (i := 2) (by omega) (by omega) dX11_comesToTold_34 ?_
    refine x_aload_n (pc := 35) C 1 dX11_comesToTold_35 rfl ?_
    refine x_callS (pc := 36) C E [.ref (t.1 (62 + 3 * (6 * 2 + d))), .ref (t.1 (54 + 2 * s))] [] (c_X11_otherwise t _ (j := 6 * 2 + d) (by omega) hs (A := fun f => vC (sCq σ q u a d).1 d f) (B := (sH σ s).2.2) (fun f hf => vc_ct hV22 (by rw [sCq_rest]; exact hd) hf) (fun f hf => rc_row hR22 hs hss (by omega))) m_X11_otherwise q41_6 rfl (by decide) (Nat.le_of_ble_eq_true rfl) dX11_comesToTold_36 rfl (k_I ?_)
    refine x_eq (show _ = otX (sCq σ q u a d).1 d σ s from rfl) ?_
    refine x_if_ne (pc := 39) C 46 dX11_comesToTold_39 (by decide) (fun h39 => ?_) (fun h39 => ?_)
    · refine x_iconst (pc := 46) (v := 0) C dX11_comesToTold_46 rfl ?_
      exact x_bret (pc := 47) C X (b := false) rfl dX11_comesToTold_47 (fib (by unfold ctX; simp [h9, h39]) hR22)
    · refine x_iconst (pc := 42) (v := 1) C dX11_comesToTold_42 rfl ?_
      refine x_goto (pc := 43) C 47 dX11_comesToTold_43 (by decide) ?_
      exact x_bret (pc := 47) C X (b := true) rfl dX11_comesToTold_47 (fib (by unfold ctX; simp [h9, h39]) hR22)
  · refine x_iconst (pc := 12) (v := 0) C dX11_comesToTold_12 rfl ?_
    exact x_bret (pc := 13) C X (b := false) rfl dX11_comesToTold_13 (fib (by unfold ctX; simp [h9]) h)

