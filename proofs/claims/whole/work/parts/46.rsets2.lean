set_option maxRecDepth 100000 in
set_option maxHeartbeats 800000 in
theorem c_X12_differs (t : CT) {σ : SV} {M : MM} (h : RR σ M) (hg : M 0 28 = 0) {f : Nat} (hf : f < 8)  : XMet (wR t) yX12_differs cX12_differs 5 (some .boolean) 3 [.ref (t.1 0), .int (nI f)] M (rI (b2i (vDu (sV σ) f)) M) := by
  refine x_met RX12 (by decide) rfl (Nat.le_of_ble_eq_true rfl) (fun κ C X E => ?_)
  refine x_L (L' := [(0, .ref (t.1 0)), (1, .int (nI f))]) rfl ?_
  have hn6 := rr_n6 h
  refine x_aload_n (pc := 0) C 0 dX12_differs_0 rfl ?_
  refine x_iload_n (pc := 1) C 1 dX12_differs_1 rfl ?_
  refine x_callV (pc := 2) C E [.int (nI f)] [] (c_X12_onOf t h (gn := 0) hg (f := f) (by omega)) m_X12_onOf q32_4 xo_M rfl (by first | decide | omega) (Nat.le_of_ble_eq_true rfl) dX12_differs_2 rfl (k_I ?_)
  refine x_eq (show _ = mk (vOn (sV (σ)) f) (vN (sV (σ))) from mk_congr (fun d _ => vOnG_0 _ _ d)) ?_
  refine x_istore_n (pc := 5) (L' := [(2, .int (mk (vOn (sV (σ)) f) (vN (sV (σ))))), (0, .ref (t.1 0)), (1, .int (nI f))]) C dX12_differs_5 (by decide) rfl ?_
  refine x_iconst (pc := 6) (v := (-1)) C dX12_differs_6 rfl ?_
  refine x_istore_n (pc := 7) (L' := [(3, .int (-1)), (2, .int (mk (vOn (sV (σ)) f) (vN (sV (σ))))), (0, .ref (t.1 0)), (1, .int (nI f))]) C dX12_differs_7 (by decide) rfl ?_
  refine x_iconst (pc := 8) (v := (nI 0)) C dX12_differs_8 (by decide) ?_
  refine x_istore (pc := 9) (L' := [(4, .int (nI 0)), (3, .int (-1)), (2, .int (mk (vOn (sV (σ)) f) (vN (sV (σ))))), (0, .ref (t.1 0)), (1, .int (nI f))]) C dX12_differs_9 (by decide) rfl ?_
  have loop11 : ∀ (k d : Nat) (x : Int32) (y : Int32) , d + k = vN (sV σ) → x = encO (ldF (sV σ) f d) → y = nI d → anyN (lxF (sV σ) f) d = false → XV κ (xP (wR t) M) 11 [(4, .int y), (3, .int x), (2, .int (mk (vOn (sV (σ)) f) (vN (sV (σ))))), (0, .ref (t.1 0)), (1, .int (nI f))] [] := by
    intro k
    induction k with
      | zero =>
        intro d x y  hcnt ex ey hz
        subst ex
        subst ey
        obtain rfl : vN (sV σ) = d := by omega
        refine x_iload (pc := 11) C 0 dX12_differs_11 rfl ?_
        refine x_aload_n (pc := 13) C 3 dX12_differs_13 rfl ?_
        refine g_M_many (pc := 14) C E q13_13 dX12_differs_14 ?_
        refine x_eq (show M 0 12 = nI (vN (sV (σ))) from (rr_size h)) ?_
        refine x_icmp_ge_t (pc := 17) C 72 dX12_differs_17 (by decide) (nI_le (by omega) (by omega)) ?_
        refine x_iconst (pc := 72) (v := 0) C dX12_differs_72 rfl ?_
        exact x_bret (pc := 73) C X (b := false) rfl dX12_differs_73 (rI_b (by rw [← lxF_du]; exact hz.symm))
      | succ k ih =>
        intro d x y  hcnt ex ey hz
        subst ex
        subst ey
        have hi11 : d < vN (sV σ) := by omega
        refine x_iload (pc := 11) C 0 dX12_differs_11 rfl ?_
        refine x_aload_n (pc := 13) C 3 dX12_differs_13 rfl ?_
        refine g_M_many (pc := 14) C E q13_13 dX12_differs_14 ?_
        refine x_eq (show M 0 12 = nI (vN (sV (σ))) from (rr_size h)) ?_
        refine x_icmp_ge_f (pc := 17) C 72 dX12_differs_17 (by decide) (nI_ge (by omega) (by omega)) ?_
        refine x_iload_n (pc := 20) C 2 dX12_differs_20 rfl ?_
        refine x_iload (pc := 21) C 0 dX12_differs_21 rfl ?_
        refine x_ishr (pc := 23) C dX12_differs_23 ?_
        refine x_iconst (pc := 24) (v := 1) C dX12_differs_24 rfl ?_
        refine x_iand (pc := 25) C dX12_differs_25 ?_
        refine x_eq (show ((mk (vOn (sV (σ)) f) (vN (sV (σ)))) >>> ((nI d) &&& 31)) &&& 1 = b2i (vOn (sV σ) f d) from ((isInS_iff (by omega)).trans (by rw [bt_mk _ _ (by omega) d (by omega), decide_eq_true (show d < vN (sV σ) by omega)]; rfl))) ?_
        refine x_iconst (pc := 26) (v := 1) C dX12_differs_26 rfl ?_
        refine x_icmp_ne (pc := 27) C 66 dX12_differs_27 (by decide) (fun h27 => ?_) (fun h27 => ?_)
        · refine x_iinc (pc := 66) (v := nI (d + 1)) (L' := [(4, .int (nI (d + 1))), (3, .int (encO (ldF (sV σ) f d))), (2, .int (mk (vOn (sV (σ)) f) (vN (sV (σ))))), (0, .ref (t.1 0)), (1, .int (nI f))]) C 0 dX12_differs_66 rfl (nI_1 _) (by decide) rfl ?_
          refine x_goto (pc := 69) C 11 dX12_differs_69 (by decide) ?_
          refine x_sub [0, 1, 2, 3, 4] rfl ?_
          exact ih (d + 1) _ _ (by omega) (by rw [ldF, if_neg (show ¬ vOn (sV σ) f d = true from fun e => h27 (b1_eq.mpr e))]) rfl (by rw [anyN, hz]; unfold lxF; rw [show vOn (sV σ) f d = false from Bool.eq_false_iff.mpr (show ¬ vOn (sV σ) f d = true from fun e => h27 (b1_eq.mpr e))]; rfl)
        · cases ho : ldF (sV σ) f d with
          | none =>
            refine x_L (L' := [(4, .int (nI d)), (3, .int (-1)), (2, .int (mk (vOn (sV (σ)) f) (vN (sV (σ))))), (0, .ref (t.1 0)), (1, .int (nI f))]) rfl ?_
            refine x_iload_n (pc := 30) C 1 dX12_differs_30 rfl ?_
            refine x_iconst (pc := 31) (v := (-1)) C dX12_differs_31 rfl ?_
            refine x_icmp_eq_t (pc := 32) C 63 dX12_differs_32 (by decide) rfl ?_
            refine x_iload (pc := 63) C 0 dX12_differs_63 rfl ?_
            refine x_istore_n (pc := 65) (L' := [(3, .int (nI d)), (4, .int (nI d)), (2, .int (mk (vOn (sV (σ)) f) (vN (sV (σ))))), (0, .ref (t.1 0)), (1, .int (nI f))]) C dX12_differs_65 (by decide) rfl ?_
            refine x_iinc (pc := 66) (v := nI (d + 1)) (L' := [(4, .int (nI (d + 1))), (3, .int (nI d)), (2, .int (mk (vOn (sV (σ)) f) (vN (sV (σ))))), (0, .ref (t.1 0)), (1, .int (nI f))]) C 1 dX12_differs_66 rfl (nI_1 _) (by decide) rfl ?_
            refine x_goto (pc := 69) C 11 dX12_differs_69 (by decide) ?_
            refine x_sub [0, 1, 2, 3, 4] rfl ?_
            exact ih (d + 1) _ _ (by omega) (by rw [ldF, if_pos (show vOn (sV σ) f d = true from b1_eq.mp h27)]; rfl) rfl (by rw [anyN, hz, Bool.false_or]; unfold lxF; rw [(show vOn (sV σ) f d = true from b1_eq.mp h27)]; rw [ho]; rfl)
          | some e =>
            have hed := (ldF_lt ho).1
            refine x_L (L' := [(4, .int (nI d)), (3, .int (nI e)), (2, .int (mk (vOn (sV (σ)) f) (vN (sV (σ))))), (0, .ref (t.1 0)), (1, .int (nI f))]) rfl ?_
            refine x_iload_n (pc := 30) C 1 dX12_differs_30 rfl ?_
            refine x_iconst (pc := 31) (v := (-1)) C dX12_differs_31 rfl ?_
            refine x_icmp_eq_f (pc := 32) C 63 dX12_differs_32 (by decide) (fun h => absurd (nI_toInt (n := e) (by omega)) (by rw [h]; simp)) ?_
            refine x_aload_n (pc := 35) C 3 dX12_differs_35 rfl ?_
            refine g_M_contents (pc := 36) C E q11_17 dX12_differs_36 ?_
            refine x_bipush (pc := 39) (v := (nI 8)) C dX12_differs_39 (by decide) ?_
            refine x_iload_n (pc := 41) C 1 dX12_differs_41 rfl ?_
            refine x_imul (pc := 42) C dX12_differs_42 ?_
            refine x_eq (show (nI 8) * (nI e) = nI (8 * e) from pk_mul _ _) ?_
            refine x_iload_n (pc := 43) C 4 dX12_differs_43 rfl ?_
            refine x_iadd (pc := 44) C dX12_differs_44 ?_
            refine x_eq (show (nI (8 * e)) + (nI f) = nI (8 * e + f) from nI_add _ _) ?_
            refine l_Rcontents (pc := 45) C E (by omega) dX12_differs_45 ?_
            refine x_eq (show M 6 (8 * e + f) = vC (sV (σ)) e f from (rr_ct h (by omega) (by omega))) ?_
            refine x_aload_n (pc := 46) C 3 dX12_differs_46 rfl ?_
            refine g_M_contents (pc := 47) C E q11_17 dX12_differs_47 ?_
            refine x_bipush (pc := 50) (v := (nI 8)) C dX12_differs_50 (by decide) ?_
            refine x_iload (pc := 52) C 0 dX12_differs_52 rfl ?_
            refine x_imul (pc := 54) C dX12_differs_54 ?_
            refine x_eq (show (nI 8) * (nI d) = nI (8 * d) from pk_mul _ _) ?_
            refine x_iload_n (pc := 55) C 4 dX12_differs_55 rfl ?_
            refine x_iadd (pc := 56) C dX12_differs_56 ?_
            refine x_eq (show (nI (8 * d)) + (nI f) = nI (8 * d + f) from nI_add _ _) ?_
            refine l_Rcontents (pc := 57) C E (by omega) dX12_differs_57 ?_
            refine x_eq (show M 6 (8 * d + f) = vC (sV (σ)) d f from (rr_ct h (by omega) (by omega))) ?_
            refine x_icmp_eq (pc := 58) C 63 dX12_differs_58 (by decide) (fun h58 => ?_) (fun h58 => ?_)
            · refine x_iload (pc := 63) C 0 dX12_differs_63 rfl ?_
              refine x_istore_n (pc := 65) (L' := [(3, .int (nI d)), (4, .int (nI d)), (2, .int (mk (vOn (sV (σ)) f) (vN (sV (σ))))), (0, .ref (t.1 0)), (1, .int (nI f))]) C dX12_differs_65 (by decide) rfl ?_
              refine x_iinc (pc := 66) (v := nI (d + 1)) (L' := [(4, .int (nI (d + 1))), (3, .int (nI d)), (2, .int (mk (vOn (sV (σ)) f) (vN (sV (σ))))), (0, .ref (t.1 0)), (1, .int (nI f))]) C 1 dX12_differs_66 rfl (nI_1 _) (by decide) rfl ?_
              refine x_goto (pc := 69) C 11 dX12_differs_69 (by decide) ?_
              refine x_sub [0, 1, 2, 3, 4] rfl ?_
              exact ih (d + 1) _ _ (by omega) (by rw [ldF, if_pos (show vOn (sV σ) f d = true from b1_eq.mp h27)]; rfl) rfl (by rw [anyN, hz, Bool.false_or]; unfold lxF; rw [(show vOn (sV σ) f d = true from b1_eq.mp h27)]; rw [ho]; show (true && !decide (vC (sV σ) e f = vC (sV σ) d f)) = false; rw [decide_eq_true h58]; rfl)
            · refine x_iconst (pc := 61) (v := 1) C dX12_differs_61 rfl ?_
              exact x_bret (pc := 62) C X (b := true) rfl dX12_differs_62 (rI_b (by rw [← lxF_du]; exact (anyN_t (p := lxF (sV σ) f) (d := d) (by omega) (by unfold lxF; rw [b1_eq.mp h27, ho]; show (true && !decide (vC (sV σ) e f = vC (sV σ) d f)) = true; rw [decide_eq_false h58]; rfl)).symm))
  refine x_sub [0, 1, 2, 3, 4] rfl ?_
  exact loop11 (vN (sV σ)) 0 _ _ (by omega) rfl rfl rfl

set_option maxRecDepth 100000 in
set_option maxHeartbeats 800000 in
theorem c_X12_differ (t : CT) {σ : SV} {M : MM} (h : RR σ M) (hg : M 0 28 = 0)  : XMet (wR t) yX12_differ cX12_differ 3 (some .int) 4 [.ref (t.1 0)] M (rI (mk (vDu (sV σ)) 8) M) := by
  refine x_met RX12 (by decide) rfl (Nat.le_of_ble_eq_true rfl) (fun κ C X E => ?_)
  refine x_L (L' := [(0, .ref (t.1 0))]) rfl ?_
  have hn6 := rr_n6 h
  refine x_iconst (pc := 0) (v := 0) C dX12_differ_0 rfl ?_
  refine x_istore_n (pc := 1) (L' := [(1, .int 0), (0, .ref (t.1 0))]) C dX12_differ_1 (by decide) rfl ?_
  refine x_iconst (pc := 2) (v := (nI 0)) C dX12_differ_2 (by decide) ?_
  refine x_istore_n (pc := 3) (L' := [(2, .int (nI 0)), (1, .int 0), (0, .ref (t.1 0))]) C dX12_differ_3 (by decide) rfl ?_
  have loop4 : ∀ (k f : Nat) (x : Int32) (y : Int32) , f + k = 8 → x = mk (vDu (sV σ)) f → y = nI f → XV κ (xP (wR t) M) 4 [(2, .int y), (1, .int x), (0, .ref (t.1 0))] [] := by
    intro k
    induction k with
      | zero =>
        intro f x y  hcnt ex ey
        subst ex
        subst ey
        obtain rfl : 8 = f := by omega
        refine x_iload_n (pc := 4) C 0 dX12_differ_4 rfl ?_
        refine x_bipush (pc := 5) (v := (nI 8)) C dX12_differ_5 (by decide) ?_
        refine x_icmp_ge_t (pc := 7) C 34 dX12_differ_7 (by decide) (nI_le (by omega) (by decide)) ?_
        refine x_iload_n (pc := 34) C 1 dX12_differ_34 rfl ?_
        exact x_iret (pc := 35) C X dX12_differ_35 (rI_i rfl)
      | succ k ih =>
        intro f x y  hcnt ex ey
        subst ex
        subst ey
        have hi4 : f < 8 := by omega
        refine x_iload_n (pc := 4) C 0 dX12_differ_4 rfl ?_
        refine x_bipush (pc := 5) (v := (nI 8)) C dX12_differ_5 (by decide) ?_
        refine x_icmp_ge_f (pc := 7) C 34 dX12_differ_7 (by decide) (nI_ge (by omega) (by decide)) ?_
        refine x_iload_n (pc := 10) C 1 dX12_differ_10 rfl ?_
        refine x_aload_n (pc := 11) C 2 dX12_differ_11 rfl ?_
        refine x_iload_n (pc := 12) C 0 dX12_differ_12 rfl ?_
        refine x_callV (pc := 13) C E [.int (nI f)] [.int (mk (vDu (sV σ)) f)] (c_X12_differs t h hg (f := f) (by omega)) m_X12_differs q34_22 xo_M rfl (by first | decide | omega) (Nat.le_of_ble_eq_true rfl) dX12_differ_13 rfl (k_I ?_)
        refine x_ifb_eq (pc := 16) C 23 dX12_differ_16 (by decide) (fun h16 => ?_) (fun h16 => ?_)
        · refine x_iconst (pc := 23) (v := 0) C dX12_differ_23 rfl ?_
          refine x_iload_n (pc := 24) C 0 dX12_differ_24 rfl ?_
          refine x_ishl (pc := 25) C dX12_differ_25 ?_
          refine x_ior (pc := 26) C dX12_differ_26 ?_
          refine x_istore_n (pc := 27) (L' := [(1, .int ((mk (vDu (sV σ)) f) ||| (0 <<< ((nI f) &&& 31)))), (2, .int (nI f)), (0, .ref (t.1 0))]) C dX12_differ_27 (by decide) rfl ?_
          refine x_iinc (pc := 28) (v := nI (f + 1)) (L' := [(2, .int (nI (f + 1))), (1, .int ((mk (vDu (sV σ)) f) ||| (0 <<< ((nI f) &&& 31)))), (0, .ref (t.1 0))]) C 1 dX12_differ_28 rfl (nI_1 _) (by decide) rfl ?_
          refine x_goto (pc := 31) C 4 dX12_differ_31 (by decide) ?_
          refine x_sub [0, 1, 2] rfl ?_
          exact ih (f + 1) _ _ (by omega) (mk_z (p := vDu (sV σ)) h16) rfl
        · refine x_iconst (pc := 19) (v := 1) C dX12_differ_19 rfl ?_
          refine x_goto (pc := 20) C 24 dX12_differ_20 (by decide) ?_
          refine x_iload_n (pc := 24) C 0 dX12_differ_24 rfl ?_
          refine x_ishl (pc := 25) C dX12_differ_25 ?_
          refine x_ior (pc := 26) C dX12_differ_26 ?_
          refine x_istore_n (pc := 27) (L' := [(1, .int ((mk (vDu (sV σ)) f) ||| (1 <<< ((nI f) &&& 31)))), (2, .int (nI f)), (0, .ref (t.1 0))]) C dX12_differ_27 (by decide) rfl ?_
          refine x_iinc (pc := 28) (v := nI (f + 1)) (L' := [(2, .int (nI (f + 1))), (1, .int ((mk (vDu (sV σ)) f) ||| (1 <<< ((nI f) &&& 31)))), (0, .ref (t.1 0))]) C 1 dX12_differ_28 rfl (nI_1 _) (by decide) rfl ?_
          refine x_goto (pc := 31) C 4 dX12_differ_31 (by decide) ?_
          refine x_sub [0, 1, 2] rfl ?_
          exact ih (f + 1) _ _ (by omega) (mk_t (p := vDu (sV σ)) h16) rfl
  refine x_sub [0, 1, 2] rfl ?_
  exact loop4 8 0 _ _ (by omega) rfl rfl

def vSafeG (v : WV) (gn k : Int32) : Int32 := mk (fun f => decide (k ≤ nI (cnt (vOnG v gn f) (vN v)))) 8
theorem vSafeG_0 (v : WV) (k : Int32) : vSafeG v 0 k = vSafe v k := mk_congr fun f _ => by
  show decide (k ≤ nI (cnt (vOnG v 0 f) (vN v))) = decide (k ≤ nI (cnt (vOn v f) (vN v)))
  rw [cnt_congr (fun d _ => vOnG_0 v f d)]
def saP (v : WV) (gn k : Int32) (f : Nat) : Bool := decide (k ≤ nI (cnt (vOnG v gn f) (vN v)))
set_option maxRecDepth 100000 in
set_option maxHeartbeats 800000 in
theorem c_X12_safe (t : CT) {σ : SV} {M : MM} (h : RR σ M) {gn : Int32} (hg : M 0 28 = gn) (k0 : Int32) : XMet (wR t) yX12_safe cX12_safe 4 (some .int) 3 [.ref (t.1 0), .int k0] M (rI (vSafeG (sV σ) gn k0) M) := by
  refine x_met RX12 (by decide) rfl (Nat.le_of_ble_eq_true rfl) (fun κ C X E => ?_)
  refine x_L (L' := [(0, .ref (t.1 0)), (1, .int k0)]) rfl ?_
  have hn6 := rr_n6 h
  refine x_iconst (pc := 0) (v := 0) C dX12_safe_0 rfl ?_
  refine x_istore_n (pc := 1) (L' := [(2, .int 0), (0, .ref (t.1 0)), (1, .int k0)]) C dX12_safe_1 (by decide) rfl ?_
  refine x_iconst (pc := 2) (v := (nI 0)) C dX12_safe_2 (by decide) ?_
  refine x_istore_n (pc := 3) (L' := [(3, .int (nI 0)), (2, .int 0), (0, .ref (t.1 0)), (1, .int k0)]) C dX12_safe_3 (by decide) rfl ?_
  have loop4 : ∀ (k f : Nat) (x : Int32) (y : Int32) , f + k = 8 → x = mk (saP (sV σ) gn k0) f → y = nI f → XV κ (xP (wR t) M) 4 [(3, .int y), (2, .int x), (0, .ref (t.1 0)), (1, .int k0)] [] := by
    intro k
    induction k with
      | zero =>
        intro f x y  hcnt ex ey
        subst ex
        subst ey
        obtain rfl : 8 = f := by omega
        refine x_iload_n (pc := 4) C 0 dX12_safe_4 rfl ?_
        refine x_bipush (pc := 5) (v := (nI 8)) C dX12_safe_5 (by decide) ?_
        refine x_icmp_ge_t (pc := 7) C 38 dX12_safe_7 (by decide) (nI_le (by omega) (by decide)) ?_
        refine x_iload_n (pc := 38) C 1 dX12_safe_38 rfl ?_
        exact x_iret (pc := 39) C X dX12_safe_39 (rI_i rfl)
      | succ k ih =>
        intro f x y  hcnt ex ey
        subst ex
        subst ey
        have hi4 : f < 8 := by omega
        refine x_iload_n (pc := 4) C 0 dX12_safe_4 rfl ?_
        refine x_bipush (pc := 5) (v := (nI 8)) C dX12_safe_5 (by decide) ?_
        refine x_icmp_ge_f (pc := 7) C 38 dX12_safe_7 (by decide) (nI_ge (by omega) (by decide)) ?_
        refine x_iload_n (pc := 10) C 1 dX12_safe_10 rfl ?_
        refine x_aload_n (pc := 11) C 2 dX12_safe_11 rfl ?_
        refine x_iload_n (pc := 12) C 0 dX12_safe_12 rfl ?_
        refine x_callV (pc := 13) C E [.int (nI f)] [.int (mk (saP (sV σ) gn k0) f)] (c_X12_onOf t h (gn := gn) hg (f := f) (by omega)) m_X12_onOf q32_4 xo_M rfl (by first | decide | omega) (Nat.le_of_ble_eq_true rfl) dX12_safe_13 rfl (k_I ?_)
        refine x_callS (pc := 16) C E [.int (mk (vOnG (sV (σ)) gn f) (vN (sV (σ))))] [.int (mk (saP (sV σ) gn k0) f)] (c_bits t _ (p := (vOnG (sV (σ)) gn f)) (n := (vN (sV (σ)))) (by omega)) m_X12_bitsOf q35_6 rfl (by first | decide | omega) (Nat.le_of_ble_eq_true rfl) dX12_safe_16 rfl (k_I ?_)
        refine x_iload_n (pc := 19) C 3 dX12_safe_19 rfl ?_
        refine x_icmp_lt (pc := 20) C 27 dX12_safe_20 (by decide) (fun h20 => ?_) (fun h20 => ?_)
        · refine x_iconst (pc := 27) (v := 0) C dX12_safe_27 rfl ?_
          refine x_iload_n (pc := 28) C 0 dX12_safe_28 rfl ?_
          refine x_ishl (pc := 29) C dX12_safe_29 ?_
          refine x_ior (pc := 30) C dX12_safe_30 ?_
          refine x_istore_n (pc := 31) (L' := [(2, .int ((mk (saP (sV σ) gn k0) f) ||| (0 <<< ((nI f) &&& 31)))), (3, .int (nI f)), (0, .ref (t.1 0)), (1, .int k0)]) C dX12_safe_31 (by decide) rfl ?_
          refine x_iinc (pc := 32) (v := nI (f + 1)) (L' := [(3, .int (nI (f + 1))), (2, .int ((mk (saP (sV σ) gn k0) f) ||| (0 <<< ((nI f) &&& 31)))), (0, .ref (t.1 0)), (1, .int k0)]) C 1 dX12_safe_32 rfl (nI_1 _) (by decide) rfl ?_
          refine x_goto (pc := 35) C 4 dX12_safe_35 (by decide) ?_
          refine x_sub [0, 1, 2, 3] rfl ?_
          exact ih (f + 1) _ _ (by omega) (mk_z (p := saP (sV σ) gn k0) (decide_eq_false (Int32.not_le.mpr h20))) rfl
        · refine x_iconst (pc := 23) (v := 1) C dX12_safe_23 rfl ?_
          refine x_goto (pc := 24) C 28 dX12_safe_24 (by decide) ?_
          refine x_iload_n (pc := 28) C 0 dX12_safe_28 rfl ?_
          refine x_ishl (pc := 29) C dX12_safe_29 ?_
          refine x_ior (pc := 30) C dX12_safe_30 ?_
          refine x_istore_n (pc := 31) (L' := [(2, .int ((mk (saP (sV σ) gn k0) f) ||| (1 <<< ((nI f) &&& 31)))), (3, .int (nI f)), (0, .ref (t.1 0)), (1, .int k0)]) C dX12_safe_31 (by decide) rfl ?_
          refine x_iinc (pc := 32) (v := nI (f + 1)) (L' := [(3, .int (nI (f + 1))), (2, .int ((mk (saP (sV σ) gn k0) f) ||| (1 <<< ((nI f) &&& 31)))), (0, .ref (t.1 0)), (1, .int k0)]) C 1 dX12_safe_32 rfl (nI_1 _) (by decide) rfl ?_
          refine x_goto (pc := 35) C 4 dX12_safe_35 (by decide) ?_
          refine x_sub [0, 1, 2, 3] rfl ?_
          exact ih (f + 1) _ _ (by omega) (mk_t (p := saP (sV σ) gn k0) (decide_eq_true (Int32.not_lt.mp h20))) rfl
  refine x_sub [0, 1, 2, 3] rfl ?_
  exact loop4 8 0 _ _ (by omega) rfl rfl

def loP (v : WV) (f : Nat) : Bool := anyN (fun d => vHas v d f) (vN v) && !anyN (vOn v f) (vN v)
/-- what stands of file f behind d disks -/
def loQ (v : WV) (f d j : Nat) : Bool := if j = f then (anyN (fun d => vHas v d f) d && !anyN (vOn v f) (vN v)) else loP v j
theorem loQ_0 {v : WV} {f : Nat} : mk (loP v) f = mk (loQ v f 0) (f + 1) := by
  rw [mk_f (p := loQ v f 0) (n := f) (by unfold loQ; rw [if_pos rfl]; rfl)]
  exact mk_congr fun i hi => by unfold loQ; rw [if_neg (by omega)]
theorem loQ_n {v : WV} {f : Nat} : mk (loQ v f (vN v)) (f + 1) = mk (loP v) (f + 1) := mk_congr fun i _ => by
  unfold loQ
  split
  · rename_i h; rw [h]; rfl
  · rfl
theorem loQ_S {v : WV} {f d : Nat} (hf : f < 8) {x : Bool} (h : x = (vHas v d f && !anyN (vOn v f) (vN v))) : mk (loQ v f d) (f + 1) ||| (b2i x <<< (nI f &&& 31)) = mk (loQ v f (d + 1)) (f + 1) := by
  apply b_ext
  intro i hi
  rw [b_or, bt_mk _ _ (by omega) i hi, bt_b2i (by omega) hi, bt_mk _ _ (by omega) i hi]
  unfold loQ
  by_cases g : i = f
  · subst g
    rw [if_pos rfl, if_pos rfl, decide_eq_true (show i < i + 1 by omega), decide_eq_true (rfl : i = i), h, anyN]
    cases anyN (fun d => vHas v d i) d <;> cases vHas v d i <;> cases anyN (vOn v i) (vN v) <;> rfl
  · rw [if_neg g, if_neg g, decide_eq_false g, Bool.and_false, Bool.or_false]
theorem mkOn_0 {v : WV} {f : Nat} (hn : vN v ≤ 6) : (mk (vOn v f) (vN v) = 0) ↔ anyN (vOn v f) (vN v) = false := by
  constructor
  · intro h
    cases g : anyN (vOn v f) (vN v) with
    | false => rfl
    | true =>
      obtain ⟨d, hd, g2⟩ := anyN_of g
      have h2 := bt_mk (vOn v f) (vN v) (by omega) d (by omega)
      rw [h, b_0, decide_eq_true hd, g2] at h2
      cases h2
  · intro h
    apply b_ext
    intro i hi
    rw [bt_mk _ _ (by omega) i hi, b_0]
    by_cases g : i < vN v
    · rw [decide_eq_true g, anyN_f h g]; rfl
    · rw [decide_eq_false g]; rfl
set_option maxRecDepth 100000 in
set_option maxHeartbeats 800000 in
theorem c_X12_lostAll (t : CT) {σ : SV} {M : MM} (h : RR σ M) (hg : M 0 28 = 0)  : XMet (wR t) yX12_lostAll cX12_lostAll 4 (some .int) 3 [.ref (t.1 0)] M (rI (vLost (sV σ)) M) := by
  refine x_met RX12 (by decide) rfl (Nat.le_of_ble_eq_true rfl) (fun κ C X E => ?_)
  refine x_L (L' := [(0, .ref (t.1 0))]) rfl ?_
  have hn6 := rr_n6 h
  refine x_iconst (pc := 0) (v := 0) C dX12_lostAll_0 rfl ?_
  refine x_istore_n (pc := 1) (L' := [(1, .int 0), (0, .ref (t.1 0))]) C dX12_lostAll_1 (by decide) rfl ?_
  refine x_iconst (pc := 2) (v := (nI 0)) C dX12_lostAll_2 (by decide) ?_
  refine x_istore_n (pc := 3) (L' := [(2, .int (nI 0)), (1, .int 0), (0, .ref (t.1 0))]) C dX12_lostAll_3 (by decide) rfl ?_
  have loop4 : ∀ (k f : Nat) (x : Int32) (y : Int32) , f + k = 8 → x = mk (loP (sV σ)) f → y = nI f → XV κ (xP (wR t) M) 4 [(2, .int y), (1, .int x), (0, .ref (t.1 0))] [] := by
    intro k
    induction k with
      | zero =>
        intro f x y  hcnt ex ey
        subst ex
        subst ey
        obtain rfl : 8 = f := by omega
        refine x_iload_n (pc := 4) C 0 dX12_lostAll_4 rfl ?_
        refine x_bipush (pc := 5) (v := (nI 8)) C dX12_lostAll_5 (by decide) ?_
        refine x_icmp_ge_t (pc := 7) C 65 dX12_lostAll_7 (by decide) (nI_le (by omega) (by decide)) ?_
        refine x_iload_n (pc := 65) C 1 dX12_lostAll_65 rfl ?_
        exact x_iret (pc := 66) C X dX12_lostAll_66 (rI_i rfl)
      | succ k ih =>
        intro f x y  hcnt ex ey
        subst ex
        subst ey
        have hi4 : f < 8 := by omega
        refine x_iload_n (pc := 4) C 0 dX12_lostAll_4 rfl ?_
        refine x_bipush (pc := 5) (v := (nI 8)) C dX12_lostAll_5 (by decide) ?_
        refine x_icmp_ge_f (pc := 7) C 65 dX12_lostAll_7 (by decide) (nI_ge (by omega) (by decide)) ?_
        refine x_iconst (pc := 10) (v := (nI 0)) C dX12_lostAll_10 (by decide) ?_
        refine x_istore_n (pc := 11) (L' := [(3, .int (nI 0)), (2, .int (nI f)), (1, .int (mk (loP (sV σ)) f)), (0, .ref (t.1 0))]) C dX12_lostAll_11 (by decide) rfl ?_
        have loop12 : ∀ (k d : Nat) (z : Int32) (u : Int32) , d + k = vN (sV σ) → z = mk (loQ (sV σ) f d) (f + 1) → u = nI d → XV κ (xP (wR t) M) 12 [(3, .int u), (2, .int (nI f)), (1, .int z), (0, .ref (t.1 0))] [] := by
          intro k
          induction k with
            | zero =>
              intro d z u  hcnt ez eu
              subst ez
              subst eu
              obtain rfl : vN (sV σ) = d := by omega
              refine x_iload_n (pc := 12) C 0 dX12_lostAll_12 rfl ?_
              refine x_aload_n (pc := 13) C 3 dX12_lostAll_13 rfl ?_
              refine g_M_many (pc := 14) C E q13_13 dX12_lostAll_14 ?_
              refine x_eq (show M 0 12 = nI (vN (sV (σ))) from (rr_size h)) ?_
              refine x_icmp_ge_t (pc := 17) C 59 dX12_lostAll_17 (by decide) (nI_le (by omega) (by omega)) ?_
              refine x_iinc (pc := 59) (v := nI (f + 1)) (L' := [(2, .int (nI (f + 1))), (3, .int (nI (vN (sV σ)))), (1, .int (mk (loQ (sV σ) f (vN (sV σ))) (f + 1))), (0, .ref (t.1 0))]) C 1 dX12_lostAll_59 rfl (nI_1 _) (by decide) rfl ?_
              refine x_goto (pc := 62) C 4 dX12_lostAll_62 (by decide) ?_
              refine x_sub [0, 2, 3] rfl ?_
              exact ih (f + 1) _ _ (by omega) loQ_n rfl
            | succ k ih =>
              intro d z u  hcnt ez eu
              subst ez
              subst eu
              have hi12 : d < vN (sV σ) := by omega
              refine x_iload_n (pc := 12) C 0 dX12_lostAll_12 rfl ?_
              refine x_aload_n (pc := 13) C 3 dX12_lostAll_13 rfl ?_
              refine g_M_many (pc := 14) C E q13_13 dX12_lostAll_14 ?_
              refine x_eq (show M 0 12 = nI (vN (sV (σ))) from (rr_size h)) ?_
              refine x_icmp_ge_f (pc := 17) C 59 dX12_lostAll_17 (by decide) (nI_ge (by omega) (by omega)) ?_
              refine x_iload_n (pc := 20) C 2 dX12_lostAll_20 rfl ?_
              refine x_aload_n (pc := 21) C 3 dX12_lostAll_21 rfl ?_
              refine g_M_contents (pc := 22) C E q11_17 dX12_lostAll_22 ?_
              refine x_bipush (pc := 25) (v := (nI 8)) C dX12_lostAll_25 (by decide) ?_
              refine x_iload_n (pc := 27) C 0 dX12_lostAll_27 rfl ?_
              refine x_imul (pc := 28) C dX12_lostAll_28 ?_
              refine x_eq (show (nI 8) * (nI d) = nI (8 * d) from pk_mul _ _) ?_
              refine x_iload_n (pc := 29) C 1 dX12_lostAll_29 rfl ?_
              refine x_iadd (pc := 30) C dX12_lostAll_30 ?_
              refine x_eq (show (nI (8 * d)) + (nI f) = nI (8 * d + f) from nI_add _ _) ?_
              refine l_Rcontents (pc := 31) C E (by omega) dX12_lostAll_31 ?_
              refine x_eq (show M 6 (8 * d + f) = vC (sV (σ)) d f from (rr_ct h (by omega) (by omega))) ?_
              refine x_iconst (pc := 32) (v := (-1)) C dX12_lostAll_32 rfl ?_
              refine x_icmp_eq (pc := 33) C 48 dX12_lostAll_33 (by decide) (fun h33 => ?_) (fun h33 => ?_)
              · refine x_iconst (pc := 48) (v := 0) C dX12_lostAll_48 rfl ?_
                refine x_iload_n (pc := 49) C 1 dX12_lostAll_49 rfl ?_
                refine x_ishl (pc := 50) C dX12_lostAll_50 ?_
                refine x_ior (pc := 51) C dX12_lostAll_51 ?_
                refine x_istore_n (pc := 52) (L' := [(1, .int ((mk (loQ (sV σ) f d) (f + 1)) ||| (0 <<< ((nI f) &&& 31)))), (3, .int (nI d)), (2, .int (nI f)), (0, .ref (t.1 0))]) C dX12_lostAll_52 (by decide) rfl ?_
                refine x_iinc (pc := 53) (v := nI (d + 1)) (L' := [(3, .int (nI (d + 1))), (1, .int ((mk (loQ (sV σ) f d) (f + 1)) ||| (0 <<< ((nI f) &&& 31)))), (2, .int (nI f)), (0, .ref (t.1 0))]) C 1 dX12_lostAll_53 rfl (nI_1 _) (by decide) rfl ?_
                refine x_goto (pc := 56) C 12 dX12_lostAll_56 (by decide) ?_
                refine x_sub [0, 2, 1, 3] rfl ?_
                exact ih (d + 1) _ _ (by omega) (loQ_S (v := sV σ) (f := f) (d := d) (by omega) (x := false) (by rw [show vHas (sV σ) d f = false from (by unfold vHas; rw [decide_eq_true h33]; rfl)]; rfl)) rfl
              · refine x_aload_n (pc := 36) C 3 dX12_lostAll_36 rfl ?_
                refine x_iload_n (pc := 37) C 1 dX12_lostAll_37 rfl ?_
                refine x_callV (pc := 38) C E [.int (nI f)] [.int (mk (loQ (sV σ) f d) (f + 1))] (c_X12_onOf t h (gn := 0) hg (f := f) (by omega)) m_X12_onOf q32_4 xo_M rfl (by first | decide | omega) (Nat.le_of_ble_eq_true rfl) dX12_lostAll_38 rfl (k_I ?_)
                refine x_eq (show _ = mk (vOn (sV (σ)) f) (vN (sV (σ))) from mk_congr (fun d _ => vOnG_0 _ _ d)) ?_
                refine x_if_ne (pc := 41) C 48 dX12_lostAll_41 (by decide) (fun h41 => ?_) (fun h41 => ?_)
                · refine x_iconst (pc := 48) (v := 0) C dX12_lostAll_48 rfl ?_
                  refine x_iload_n (pc := 49) C 1 dX12_lostAll_49 rfl ?_
                  refine x_ishl (pc := 50) C dX12_lostAll_50 ?_
                  refine x_ior (pc := 51) C dX12_lostAll_51 ?_
                  refine x_istore_n (pc := 52) (L' := [(1, .int ((mk (loQ (sV σ) f d) (f + 1)) ||| (0 <<< ((nI f) &&& 31)))), (3, .int (nI d)), (2, .int (nI f)), (0, .ref (t.1 0))]) C dX12_lostAll_52 (by decide) rfl ?_
                  refine x_iinc (pc := 53) (v := nI (d + 1)) (L' := [(3, .int (nI (d + 1))), (1, .int ((mk (loQ (sV σ) f d) (f + 1)) ||| (0 <<< ((nI f) &&& 31)))), (2, .int (nI f)), (0, .ref (t.1 0))]) C 1 dX12_lostAll_53 rfl (nI_1 _) (by decide) rfl ?_
                  refine x_goto (pc := 56) C 12 dX12_lostAll_56 (by decide) ?_
                  refine x_sub [0, 2, 1, 3] rfl ?_
                  exact ih (d + 1) _ _ (by omega) (loQ_S (v := sV σ) (f := f) (d := d) (by omega) (x := false) (by rw [show anyN (vOn (sV σ) f) (vN (sV σ)) = true from (by cases g : anyN (vOn (sV σ) f) (vN (sV σ)) with | true => rfl | false => exact absurd ((mkOn_0 hn6).mpr g) h41)]; cases vHas (sV σ) d f <;> rfl)) rfl
                · refine x_iconst (pc := 44) (v := 1) C dX12_lostAll_44 rfl ?_
                  refine x_goto (pc := 45) C 49 dX12_lostAll_45 (by decide) ?_
                  refine x_iload_n (pc := 49) C 1 dX12_lostAll_49 rfl ?_
                  refine x_ishl (pc := 50) C dX12_lostAll_50 ?_
                  refine x_ior (pc := 51) C dX12_lostAll_51 ?_
                  refine x_istore_n (pc := 52) (L' := [(1, .int ((mk (loQ (sV σ) f d) (f + 1)) ||| (1 <<< ((nI f) &&& 31)))), (3, .int (nI d)), (2, .int (nI f)), (0, .ref (t.1 0))]) C dX12_lostAll_52 (by decide) rfl ?_
                  refine x_iinc (pc := 53) (v := nI (d + 1)) (L' := [(3, .int (nI (d + 1))), (1, .int ((mk (loQ (sV σ) f d) (f + 1)) ||| (1 <<< ((nI f) &&& 31)))), (2, .int (nI f)), (0, .ref (t.1 0))]) C 1 dX12_lostAll_53 rfl (nI_1 _) (by decide) rfl ?_
                  refine x_goto (pc := 56) C 12 dX12_lostAll_56 (by decide) ?_
                  refine x_sub [0, 2, 1, 3] rfl ?_
                  exact ih (d + 1) _ _ (by omega) (loQ_S (v := sV σ) (f := f) (d := d) (by omega) (x := true) (by rw [show vHas (sV σ) d f = true from (by unfold vHas; rw [decide_eq_false h33]; rfl), (mkOn_0 hn6).mp h41]; rfl)) rfl
        refine x_sub [0, 1, 2, 3] rfl ?_
        exact loop12 (vN (sV σ)) 0 _ _ (by omega) loQ_0 rfl
  refine x_sub [0, 1, 2] rfl ?_
  exact loop4 8 0 _ _ (by omega) rfl rfl

def woP (v : WV) (gn : Int32) (f : Nat) : Bool := anyN (vOnG v gn f) (vN v)
theorem mkOnG_0 {v : WV} {gn : Int32} {f : Nat} (hn : vN v ≤ 6) : (mk (vOnG v gn f) (vN v) = 0) ↔ woP v gn f = false := by
  unfold woP
  constructor
  · intro h
    cases g : anyN (vOnG v gn f) (vN v) with
    | false => rfl
    | true =>
      obtain ⟨d, hd, g2⟩ := anyN_of g
      have h2 := bt_mk (vOnG v gn f) (vN v) (by omega) d (by omega)
      rw [h, b_0, decide_eq_true hd, g2] at h2
      cases h2
  · intro h
    apply b_ext
    intro i hi
    rw [bt_mk _ _ (by omega) i hi, b_0]
    by_cases g : i < vN v
    · rw [decide_eq_true g, anyN_f h g]; rfl
    · rw [decide_eq_false g]; rfl
theorem mkOn_G (v : WV) (f : Nat) : mk (vOn v f) (vN v) = mk (vOnG v 0 f) (vN v) := mk_congr fun d _ => (vOnG_0 v f d).symm
set_option maxRecDepth 100000 in
set_option maxHeartbeats 800000 in
theorem c_X12_worthAll (t : CT) {σ : SV} {M : MM} (h : RR σ M) {gn : Int32} (hg : M 0 28 = gn)  : XMet (wR t) yX12_worthAll cX12_worthAll 3 (some .int) 64 [.ref (t.1 0)] M (sQ M (sWs σ (woP (sV σ) gn) 8)) := by
  refine x_met RX12 (by decide) rfl (Nat.le_of_ble_eq_true rfl) (fun κ C X E => ?_)
  refine x_L (L' := [(0, .ref (t.1 0))]) rfl ?_
  have hn6 := rr_n6 h
  refine x_iconst (pc := 0) (v := 0) C dX12_worthAll_0 rfl ?_
  refine x_istore_n (pc := 1) (L' := [(1, .int 0), (0, .ref (t.1 0))]) C dX12_worthAll_1 (by decide) rfl ?_
  refine x_iconst (pc := 2) (v := (nI 0)) C dX12_worthAll_2 (by decide) ?_
  refine x_istore_n (pc := 3) (L' := [(2, .int (nI 0)), (1, .int 0), (0, .ref (t.1 0))]) C dX12_worthAll_3 (by decide) rfl ?_
  have loop4 : ∀ (k f : Nat) (x : Int32) (y : Int32) (Mx : MM) , f + k = 8 → x = sWs σ (woP (sV σ) gn) f → y = nI f → Sc M Mx → XV κ (xP (wR t) Mx) 4 [(2, .int y), (1, .int x), (0, .ref (t.1 0))] [] := by
    intro k
    induction k with
      | zero =>
        intro f x y Mx  hcnt ex ey eMx
        subst ex
        subst ey
        obtain rfl : 8 = f := by omega
        refine x_iload_n (pc := 4) C 0 dX12_worthAll_4 rfl ?_
        refine x_bipush (pc := 5) (v := (nI 8)) C dX12_worthAll_5 (by decide) ?_
        refine x_icmp_ge_t (pc := 7) C 40 dX12_worthAll_7 (by decide) (nI_le (by omega) (by decide)) ?_
        refine x_iload_n (pc := 40) C 1 dX12_worthAll_40 rfl ?_
        exact x_iret (pc := 41) C X dX12_worthAll_41 ⟨rfl, eMx⟩
      | succ k ih =>
        intro f x y Mx  hcnt ex ey eMx
        subst ex
        subst ey
        have hi4 : f < 8 := by omega
        refine x_iload_n (pc := 4) C 0 dX12_worthAll_4 rfl ?_
        refine x_bipush (pc := 5) (v := (nI 8)) C dX12_worthAll_5 (by decide) ?_
        refine x_icmp_ge_f (pc := 7) C 40 dX12_worthAll_7 (by decide) (nI_ge (by omega) (by decide)) ?_
        refine x_iload_n (pc := 10) C 1 dX12_worthAll_10 rfl ?_
        refine x_aload_n (pc := 11) C 2 dX12_worthAll_11 rfl ?_
        refine x_iload_n (pc := 12) C 0 dX12_worthAll_12 rfl ?_
        refine x_callV (pc := 13) C E [.int (nI f)] [.int (sWs σ (woP (sV σ) gn) f)] (c_X12_onOf t (rr_Sc h eMx) (gn := gn) ((eMx _ _ (by omega)).trans hg) (f := f) (by omega)) m_X12_onOf q32_4 xo_M rfl (by first | decide | omega) (Nat.le_of_ble_eq_true rfl) dX12_worthAll_13 rfl (k_I ?_)
        refine x_if_ne (pc := 16) C 23 dX12_worthAll_16 (by decide) (fun h16 => ?_) (fun h16 => ?_)
        · refine x_aload_n (pc := 23) C 2 dX12_worthAll_23 rfl ?_
          refine x_iconst (pc := 24) (v := (nI 2)) C dX12_worthAll_24 (by decide) ?_
          refine x_iconst (pc := 25) (v := 0) C dX12_worthAll_25 rfl ?_
          refine x_iload_n (pc := 26) C 0 dX12_worthAll_26 rfl ?_
          refine x_bipush (pc := 27) (v := (nI 99)) C dX12_worthAll_27 (by decide) ?_
          refine x_callV (pc := 29) C E [.int (nI 2), .int 0, .int (nI f), .int (nI 99)] [.int (sWs σ (woP (sV σ) gn) f)] (c_X12_plainOf2 t (rr_Sc h eMx) 0 (nI f) (m := 99) (by decide)) m_X12_plainOf q14_16 xo_M rfl (by first | decide | omega) (Nat.le_of_ble_eq_true rfl) dX12_worthAll_29 rfl (fun r M29 hc29 => ?_)
          obtain ⟨rfl, hS29⟩ := hc29
          show XV κ (xP (wR t) M29) 32 _ [.int (clampI (nI 99) (sT (σ) (vR (sV (σ))) 2 (nm6 0 0 0 0 (nI f) (vD (sV (σ)))))), .int (sWs σ (woP (sV σ) gn) f)]
          refine x_iadd (pc := 32) C dX12_worthAll_32 ?_
          refine x_istore_n (pc := 33) (L' := [(1, .int ((sWs σ (woP (sV σ) gn) f) + (clampI (nI 99) (sT (σ) (vR (sV (σ))) 2 (nm6 0 0 0 0 (nI f) (vD (sV (σ)))))))), (2, .int (nI f)), (0, .ref (t.1 0))]) C dX12_worthAll_33 (by decide) rfl ?_
          refine x_iinc (pc := 34) (v := nI (f + 1)) (L' := [(2, .int (nI (f + 1))), (1, .int ((sWs σ (woP (sV σ) gn) f) + (clampI (nI 99) (sT (σ) (vR (sV (σ))) 2 (nm6 0 0 0 0 (nI f) (vD (sV (σ)))))))), (0, .ref (t.1 0))]) C 1 dX12_worthAll_34 rfl (nI_1 _) (by decide) rfl ?_
          refine x_goto (pc := 37) C 4 dX12_worthAll_37 (by decide) ?_
          refine x_sub [0, 1, 2] rfl ?_
          exact ih (f + 1) _ _ _ (by omega) (by rw [sWs, if_pos (by cases g : woP (sV σ) gn f with | true => rfl | false => exact absurd ((mkOnG_0 hn6).mpr g) h16)]; rfl) rfl (eMx.tr hS29)
        · refine x_iconst (pc := 19) (v := 0) C dX12_worthAll_19 rfl ?_
          refine x_goto (pc := 20) C 32 dX12_worthAll_20 (by decide) ?_
          refine x_iadd (pc := 32) C dX12_worthAll_32 ?_
          refine x_istore_n (pc := 33) (L' := [(1, .int ((sWs σ (woP (sV σ) gn) f) + 0)), (2, .int (nI f)), (0, .ref (t.1 0))]) C dX12_worthAll_33 (by decide) rfl ?_
          refine x_iinc (pc := 34) (v := nI (f + 1)) (L' := [(2, .int (nI (f + 1))), (1, .int ((sWs σ (woP (sV σ) gn) f) + 0)), (0, .ref (t.1 0))]) C 1 dX12_worthAll_34 rfl (nI_1 _) (by decide) rfl ?_
          refine x_goto (pc := 37) C 4 dX12_worthAll_37 (by decide) ?_
          refine x_sub [0, 1, 2] rfl ?_
          exact ih (f + 1) _ _ _ (by omega) (by rw [sWs, if_neg (by rw [(mkOnG_0 hn6).mp h16]; decide)]; exact Int32.add_zero _) rfl (by assumption)
  refine x_sub [0, 1, 2] rfl ?_
  exact loop4 8 0 _ _ M (by omega) rfl rfl Sc.rf

set_option maxRecDepth 100000 in
set_option maxHeartbeats 800000 in
theorem c_X12_hasSet (t : CT) {σ : SV} {M : MM} (h : RR σ M) {d : Nat} (hd : d < vN (sV σ))  : XMet (wR t) yX12_hasSet cX12_hasSet 4 (some .int) 1 [.ref (t.1 0), .int (nI d)] M (rI (mk (vHas (sV σ) d) 8) M) := by
  refine x_met RX12 (by decide) rfl (Nat.le_of_ble_eq_true rfl) (fun κ C X E => ?_)
  refine x_L (L' := [(0, .ref (t.1 0)), (1, .int (nI d))]) rfl ?_
  have hn6 := rr_n6 h
  refine x_iconst (pc := 0) (v := 0) C dX12_hasSet_0 rfl ?_
  refine x_istore_n (pc := 1) (L' := [(2, .int 0), (0, .ref (t.1 0)), (1, .int (nI d))]) C dX12_hasSet_1 (by decide) rfl ?_
  refine x_iconst (pc := 2) (v := (nI 0)) C dX12_hasSet_2 (by decide) ?_
  refine x_istore_n (pc := 3) (L' := [(3, .int (nI 0)), (2, .int 0), (0, .ref (t.1 0)), (1, .int (nI d))]) C dX12_hasSet_3 (by decide) rfl ?_
  have loop4 : ∀ (k f : Nat) (x : Int32) (y : Int32) , f + k = 8 → x = mk (vHas (sV σ) d) f → y = nI f → XV κ (xP (wR t) M) 4 [(3, .int y), (2, .int x), (0, .ref (t.1 0)), (1, .int (nI d))] [] := by
    intro k
    induction k with
      | zero =>
        intro f x y  hcnt ex ey
        subst ex
        subst ey
        obtain rfl : 8 = f := by omega
        refine x_iload_n (pc := 4) C 0 dX12_hasSet_4 rfl ?_
        refine x_bipush (pc := 5) (v := (nI 8)) C dX12_hasSet_5 (by decide) ?_
        refine x_icmp_ge_t (pc := 7) C 41 dX12_hasSet_7 (by decide) (nI_le (by omega) (by decide)) ?_
        refine x_iload_n (pc := 41) C 1 dX12_hasSet_41 rfl ?_
        exact x_iret (pc := 42) C X dX12_hasSet_42 (rI_i rfl)
      | succ k ih =>
        intro f x y  hcnt ex ey
        subst ex
        subst ey
        have hi4 : f < 8 := by omega
        refine x_iload_n (pc := 4) C 0 dX12_hasSet_4 rfl ?_
        refine x_bipush (pc := 5) (v := (nI 8)) C dX12_hasSet_5 (by decide) ?_
        refine x_icmp_ge_f (pc := 7) C 41 dX12_hasSet_7 (by decide) (nI_ge (by omega) (by decide)) ?_
        refine x_iload_n (pc := 10) C 1 dX12_hasSet_10 rfl ?_
        refine x_aload_n (pc := 11) C 2 dX12_hasSet_11 rfl ?_
        refine g_M_contents (pc := 12) C E q11_17 dX12_hasSet_12 ?_
        refine x_bipush (pc := 15) (v := (nI 8)) C dX12_hasSet_15 (by decide) ?_
        refine x_iload_n (pc := 17) C 3 dX12_hasSet_17 rfl ?_
        refine x_imul (pc := 18) C dX12_hasSet_18 ?_
        refine x_eq (show (nI 8) * (nI d) = nI (8 * d) from pk_mul _ _) ?_
        refine x_iload_n (pc := 19) C 0 dX12_hasSet_19 rfl ?_
        refine x_iadd (pc := 20) C dX12_hasSet_20 ?_
        refine x_eq (show (nI (8 * d)) + (nI f) = nI (8 * d + f) from nI_add _ _) ?_
        refine l_Rcontents (pc := 21) C E (by omega) dX12_hasSet_21 ?_
        refine x_eq (show M 6 (8 * d + f) = vC (sV (σ)) d f from (rr_ct h (by omega) (by omega))) ?_
        refine x_iconst (pc := 22) (v := (-1)) C dX12_hasSet_22 rfl ?_
        refine x_icmp_ne (pc := 23) C 30 dX12_hasSet_23 (by decide) (fun h23 => ?_) (fun h23 => ?_)
        · refine x_iconst (pc := 30) (v := 1) C dX12_hasSet_30 rfl ?_
          refine x_iload_n (pc := 31) C 0 dX12_hasSet_31 rfl ?_
          refine x_ishl (pc := 32) C dX12_hasSet_32 ?_
          refine x_ior (pc := 33) C dX12_hasSet_33 ?_
          refine x_istore_n (pc := 34) (L' := [(2, .int ((mk (vHas (sV σ) d) f) ||| (1 <<< ((nI f) &&& 31)))), (3, .int (nI f)), (0, .ref (t.1 0)), (1, .int (nI d))]) C dX12_hasSet_34 (by decide) rfl ?_
          refine x_iinc (pc := 35) (v := nI (f + 1)) (L' := [(3, .int (nI (f + 1))), (2, .int ((mk (vHas (sV σ) d) f) ||| (1 <<< ((nI f) &&& 31)))), (0, .ref (t.1 0)), (1, .int (nI d))]) C 1 dX12_hasSet_35 rfl (nI_1 _) (by decide) rfl ?_
          refine x_goto (pc := 38) C 4 dX12_hasSet_38 (by decide) ?_
          refine x_sub [0, 1, 2, 3] rfl ?_
          exact ih (f + 1) _ _ (by omega) (mk_t (p := vHas (sV σ) d) (by unfold vHas; rw [decide_eq_false h23]; rfl)) rfl
        · refine x_iconst (pc := 26) (v := 0) C dX12_hasSet_26 rfl ?_
          refine x_goto (pc := 27) C 31 dX12_hasSet_27 (by decide) ?_
          refine x_iload_n (pc := 31) C 0 dX12_hasSet_31 rfl ?_
          refine x_ishl (pc := 32) C dX12_hasSet_32 ?_
          refine x_ior (pc := 33) C dX12_hasSet_33 ?_
          refine x_istore_n (pc := 34) (L' := [(2, .int ((mk (vHas (sV σ) d) f) ||| (0 <<< ((nI f) &&& 31)))), (3, .int (nI f)), (0, .ref (t.1 0)), (1, .int (nI d))]) C dX12_hasSet_34 (by decide) rfl ?_
          refine x_iinc (pc := 35) (v := nI (f + 1)) (L' := [(3, .int (nI (f + 1))), (2, .int ((mk (vHas (sV σ) d) f) ||| (0 <<< ((nI f) &&& 31)))), (0, .ref (t.1 0)), (1, .int (nI d))]) C 1 dX12_hasSet_35 rfl (nI_1 _) (by decide) rfl ?_
          refine x_goto (pc := 38) C 4 dX12_hasSet_38 (by decide) ?_
          refine x_sub [0, 1, 2, 3] rfl ?_
          exact ih (f + 1) _ _ (by omega) (mk_z (p := vHas (sV σ) d) (by unfold vHas; rw [decide_eq_true h23]; rfl)) rfl
  refine x_sub [0, 1, 2, 3] rfl ?_
  exact loop4 8 0 _ _ (by omega) rfl rfl

set_option maxRecDepth 100000 in
set_option maxHeartbeats 800000 in
theorem c_X12_unlike (t : CT) {σ : SV} {M : MM} (h : RR σ M) {s : Nat} (hs : s < 4) (hss : (sH σ s).1 ≠ -1) (h8 : (sH σ s).2.1 = 8) {d : Nat} (hd : d < vN (sV σ))  : XMet (wR t) yX12_unlike cX12_unlike 5 (some .int) 1 [.ref (t.1 0), .int (nI s), .int (nI d)] M (rI (otX (sV σ) d σ s) M) := by
  refine x_met RX12 (by decide) rfl (Nat.le_of_ble_eq_true rfl) (fun κ C X E => ?_)
  refine x_L (L' := [(0, .ref (t.1 0)), (1, .int (nI s)), (2, .int (nI d))]) rfl ?_
  have hn6 := rr_n6 h
  refine x_iconst (pc := 0) (v := 0) C dX12_unlike_0 rfl ?_
  refine x_istore_n (pc := 1) (L' := [(3, .int 0), (0, .ref (t.1 0)), (1, .int (nI s)), (2, .int (nI d))]) C dX12_unlike_1 (by decide) rfl ?_
  refine x_iconst (pc := 2) (v := (nI 0)) C dX12_unlike_2 (by decide) ?_
  refine x_istore (pc := 3) (L' := [(4, .int (nI 0)), (3, .int 0), (0, .ref (t.1 0)), (1, .int (nI s)), (2, .int (nI d))]) C dX12_unlike_3 (by decide) rfl ?_
  have loop5 : ∀ (k f : Nat) (x : Int32) (y : Int32) , f + k = 8 → x = mk (ofX (fun f => vC (sV σ) d f) (sH σ s).2.2) f → y = nI f → XV κ (xP (wR t) M) 5 [(4, .int y), (3, .int x), (0, .ref (t.1 0)), (1, .int (nI s)), (2, .int (nI d))] [] := by
    intro k
    induction k with
      | zero =>
        intro f x y  hcnt ex ey
        subst ex
        subst ey
        obtain rfl : 8 = f := by omega
        refine x_iload (pc := 5) C 0 dX12_unlike_5 rfl ?_
        refine x_bipush (pc := 7) (v := (nI 8)) C dX12_unlike_7 (by decide) ?_
        refine x_icmp_ge_t (pc := 9) C 56 dX12_unlike_9 (by decide) (nI_le (by omega) (by decide)) ?_
        refine x_iload_n (pc := 56) C 1 dX12_unlike_56 rfl ?_
        exact x_iret (pc := 57) C X dX12_unlike_57 (rI_i rfl)
      | succ k ih =>
        intro f x y  hcnt ex ey
        subst ex
        subst ey
        have hi5 : f < 8 := by omega
        refine x_iload (pc := 5) C 0 dX12_unlike_5 rfl ?_
        refine x_bipush (pc := 7) (v := (nI 8)) C dX12_unlike_7 (by decide) ?_
        refine x_icmp_ge_f (pc := 9) C 56 dX12_unlike_9 (by decide) (nI_ge (by omega) (by decide)) ?_
        refine x_iload_n (pc := 12) C 1 dX12_unlike_12 rfl ?_
        refine x_aload_n (pc := 13) C 2 dX12_unlike_13 rfl ?_
        refine g_M_contents (pc := 14) C E q11_17 dX12_unlike_14 ?_
        refine x_bipush (pc := 17) (v := (nI 8)) C dX12_unlike_17 (by decide) ?_
        refine x_iload_n (pc := 19) C 4 dX12_unlike_19 rfl ?_
        refine x_imul (pc := 20) C dX12_unlike_20 ?_
        refine x_eq (show (nI 8) * (nI d) = nI (8 * d) from pk_mul _ _) ?_
        refine x_iload (pc := 21) C 0 dX12_unlike_21 rfl ?_
        refine x_iadd (pc := 23) C dX12_unlike_23 ?_
        refine x_eq (show (nI (8 * d)) + (nI f) = nI (8 * d + f) from nI_add _ _) ?_
        refine l_Rcontents (pc := 24) C E (by omega) dX12_unlike_24 ?_
        refine x_eq (show M 6 (8 * d + f) = vC (sV (σ)) d f from (rr_ct h (by omega) (by omega))) ?_
        refine x_aload_n (pc := 25) C 2 dX12_unlike_25 rfl ?_
        refine g_M_items (pc := 26) C E q12_4 dX12_unlike_26 ?_
        refine x_bipush (pc := 29) (v := (nI 40)) C dX12_unlike_29 (by decide) ?_
        refine x_iload_n (pc := 31) C 3 dX12_unlike_31 rfl ?_
        refine x_imul (pc := 32) C dX12_unlike_32 ?_
        refine x_eq (show (nI 40) * (nI s) = nI (40 * s) from pk_mul _ _) ?_
        refine x_iload (pc := 33) C 0 dX12_unlike_33 rfl ?_
        refine x_iadd (pc := 35) C dX12_unlike_35 ?_
        refine x_eq (show (nI (40 * s)) + (nI f) = nI (40 * s + f) from nI_add _ _) ?_
        refine l_Ritems (pc := 36) C E (by omega) dX12_unlike_36 ?_
        refine x_eq (show M 15 (40 * s + f) = (sH (σ) s).2.2 f from (rr_it h (by omega) hss (by omega))) ?_
        refine x_icmp_ne (pc := 37) C 44 dX12_unlike_37 (by decide) (fun h37 => ?_) (fun h37 => ?_)
        · refine x_iconst (pc := 44) (v := 1) C dX12_unlike_44 rfl ?_
          refine x_iload (pc := 45) C 0 dX12_unlike_45 rfl ?_
          refine x_ishl (pc := 47) C dX12_unlike_47 ?_
          refine x_ior (pc := 48) C dX12_unlike_48 ?_
          refine x_istore_n (pc := 49) (L' := [(3, .int ((mk (ofX (fun f => vC (sV σ) d f) (sH σ s).2.2) f) ||| (1 <<< ((nI f) &&& 31)))), (4, .int (nI f)), (0, .ref (t.1 0)), (1, .int (nI s)), (2, .int (nI d))]) C dX12_unlike_49 (by decide) rfl ?_
          refine x_iinc (pc := 50) (v := nI (f + 1)) (L' := [(4, .int (nI (f + 1))), (3, .int ((mk (ofX (fun f => vC (sV σ) d f) (sH σ s).2.2) f) ||| (1 <<< ((nI f) &&& 31)))), (0, .ref (t.1 0)), (1, .int (nI s)), (2, .int (nI d))]) C 1 dX12_unlike_50 rfl (nI_1 _) (by decide) rfl ?_
          refine x_goto (pc := 53) C 5 dX12_unlike_53 (by decide) ?_
          refine x_sub [0, 1, 2, 3, 4] rfl ?_
          exact ih (f + 1) _ _ (by omega) (mk_t (p := ofX (fun f => vC (sV σ) d f) (sH σ s).2.2) (by unfold ofX; rw [decide_eq_false h37]; rfl)) rfl
        · refine x_iconst (pc := 40) (v := 0) C dX12_unlike_40 rfl ?_
          refine x_goto (pc := 41) C 45 dX12_unlike_41 (by decide) ?_
          refine x_iload (pc := 45) C 0 dX12_unlike_45 rfl ?_
          refine x_ishl (pc := 47) C dX12_unlike_47 ?_
          refine x_ior (pc := 48) C dX12_unlike_48 ?_
          refine x_istore_n (pc := 49) (L' := [(3, .int ((mk (ofX (fun f => vC (sV σ) d f) (sH σ s).2.2) f) ||| (0 <<< ((nI f) &&& 31)))), (4, .int (nI f)), (0, .ref (t.1 0)), (1, .int (nI s)), (2, .int (nI d))]) C dX12_unlike_49 (by decide) rfl ?_
          refine x_iinc (pc := 50) (v := nI (f + 1)) (L' := [(4, .int (nI (f + 1))), (3, .int ((mk (ofX (fun f => vC (sV σ) d f) (sH σ s).2.2) f) ||| (0 <<< ((nI f) &&& 31)))), (0, .ref (t.1 0)), (1, .int (nI s)), (2, .int (nI d))]) C 1 dX12_unlike_50 rfl (nI_1 _) (by decide) rfl ?_
          refine x_goto (pc := 53) C 5 dX12_unlike_53 (by decide) ?_
          refine x_sub [0, 1, 2, 3, 4] rfl ?_
          exact ih (f + 1) _ _ (by omega) (mk_z (p := ofX (fun f => vC (sV σ) d f) (sH σ s).2.2) (by unfold ofX; rw [decide_eq_true h37]; rfl)) rfl
  refine x_sub [0, 1, 2, 3, 4] rfl ?_
  exact loop5 8 0 _ _ (by omega) rfl rfl

