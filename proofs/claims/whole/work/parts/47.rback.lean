/-! what the reference lays aside and back -/
def KpR (L q : Nat) (A B : MM) : Prop := (∀ j, j < q → B 8 (96 * L + j) = A 6 j ∧ B 8 (96 * L + 48 + j) = A 7 j) ∧ ∀ a b, (a ≠ 8 ∨ b < 96 * L ∨ 96 * L + 96 ≤ b) → B a b = A a b
def LbR (L q : Nat) (A B : MM) : Prop := (∀ j, j < q → B 6 j = A 8 (96 * L + j) ∧ B 7 j = A 8 (96 * L + 48 + j)) ∧ ∀ a b, a ≠ 6 → a ≠ 7 → B a b = A a b
def FrK (L : Nat) (A B : MM) : Prop := ∀ a b, a ≠ 6 → a ≠ 7 → (a ≠ 0 ∨ b < 13 ∨ 27 < b) → (a ≠ 8 ∨ 96 * L ≤ b) → B a b = A a b
theorem FrK.rf {L : Nat} {A : MM} : FrK L A A := fun _ _ _ _ _ _ => rfl
theorem FrK.tr {L : Nat} {A B D : MM} (h1 : FrK L A B) (h2 : FrK L B D) : FrK L A D := fun a b x y z w => (h2 a b x y z w).trans (h1 a b x y z w)
theorem FrK.c {L : Nat} {A B : MM} (h : Cq A B) : FrK L A B := fun a b x y z _ => h a b x y z
theorem FrK.s {L : Nat} {A B : MM} (h : Sc A B) : FrK L A B := fun a b _ _ z _ => h a b z
theorem FrK.up {L L' : Nat} {A B : MM} (h : FrK L A B) (hL : L ≤ L') : FrK L' A B := fun a b x y z w => h a b x y z (by omega)
theorem rr_kp {σ : SV} {L : Nat} {A B : MM} (h : RR σ A) (hK : KpR L 48 A B) : RR σ B := rr_frame h (fun a b hr => hK.2 a b (by unfold relR at hr; omega))
theorem rr_back {σ : SV} {L : Nat} {M0 M1 M2 M3 : MM} (h : RR σ M0) (hK : KpR L 48 M0 M1) (hF : FrK L M1 M2) (hL : LbR L 48 M2 M3) : RR σ M3 ∧ FrK (L + 1) M0 M3 := by
  have e : ∀ a b, a ≠ 6 → a ≠ 7 → (a ≠ 0 ∨ b < 13 ∨ 27 < b) → (a ≠ 8 ∨ 96 * L + 96 ≤ b) → M3 a b = M0 a b := fun a b h6 h7 h0 h8 => by
    rw [hL.2 a b h6 h7, hF a b h6 h7 h0 (by omega), hK.2 a b (by omega)]
  have e6 : ∀ j, j < 48 → M3 6 j = M0 6 j := fun j hj => by rw [(hL.1 j hj).1, hF 8 _ (by decide) (by decide) (by omega) (by omega), (hK.1 j hj).1]
  have e7 : ∀ j, j < 48 → M3 7 j = M0 7 j := fun j hj => by rw [(hL.1 j hj).2, hF 8 _ (by decide) (by decide) (by omega) (by omega), (hK.1 j hj).2]
  refine ⟨rr_V (v' := sV σ) h ⟨h.2.1.1, ?_, ?_, ?_, fun d hd => ?_⟩ (fun a b hr g0 g4 g5 g6 g7 => e a b g6 g7 (by unfold relR at hr; omega) (by unfold relR at hr; omega)) h.1.2.2.1 h.1.2.2.2.1, fun a b h6 h7 h0 h8 => e a b h6 h7 h0 (by omega)⟩
  · rw [e _ _ (by decide) (by decide) (by omega) (by omega)]; exact rr_day h
  · rw [e _ _ (by decide) (by decide) (by omega) (by omega)]; exact rr_rule h
  · rw [e _ _ (by decide) (by decide) (by omega) (by omega)]; exact rr_size h
  · obtain ⟨a1, a2, a3, a4, a5⟩ := h.2.1.2.2.2.2 d hd
    have h6 := rr_n6 h
    refine ⟨by rw [e _ _ (by decide) (by decide) (by omega) (by omega)]; exact a1, a2, by rw [e _ _ (by decide) (by decide) (by omega) (by omega)]; exact a3, by rw [e _ _ (by decide) (by decide) (by omega) (by omega)]; exact a4, fun f hf => ?_⟩
    rw [e6 _ (by omega), e7 _ (by omega)]
    exact a5 f hf
set_option maxRecDepth 100000 in
set_option maxHeartbeats 800000 in
theorem c_X12_keeps (t : CT) (M : MM) {L : Nat} (hL : L < 5) : XMet (wR t) yX12_keeps cX12_keeps 3 none 1 [.ref (t.1 0), .int (nI L)] M (fun r B => r = none ∧ KpR L 48 M B) := by
  refine x_met RX12 (by decide) rfl (Nat.le_of_ble_eq_true rfl) (fun κ C X E => ?_)
  refine x_L (L' := [(0, .ref (t.1 0)), (1, .int (nI L))]) rfl ?_
  refine x_iconst (pc := 0) (v := (nI 0)) C dX12_keeps_0 (by decide) ?_
  refine x_istore_n (pc := 1) (L' := [(2, .int (nI 0)), (0, .ref (t.1 0)), (1, .int (nI L))]) C dX12_keeps_1 (by decide) rfl ?_
  have loop2 : ∀ (k q : Nat) (y : Int32) (Mx : MM) , q + k = 48 → y = nI q → KpR L q M Mx → XV κ (xP (wR t) Mx) 2 [(2, .int y), (0, .ref (t.1 0)), (1, .int (nI L))] [] := by
    intro k
    induction k with
      | zero =>
        intro q y Mx  hcnt ey eMx
        subst ey
        obtain rfl : 48 = q := by omega
        refine x_iload_n (pc := 2) C 0 dX12_keeps_2 rfl ?_
        refine x_bipush (pc := 3) (v := (nI 48)) C dX12_keeps_3 (by decide) ?_
        refine x_icmp_ge_t (pc := 5) C 51 dX12_keeps_5 (by decide) (nI_le (by omega) (by decide)) ?_
        exact x_vret (pc := 51) C X dX12_keeps_51 ⟨rfl, eMx⟩
      | succ k ih =>
        intro q y Mx  hcnt ey eMx
        subst ey
        have hi2 : q < 48 := by omega
        refine x_iload_n (pc := 2) C 0 dX12_keeps_2 rfl ?_
        refine x_bipush (pc := 3) (v := (nI 48)) C dX12_keeps_3 (by decide) ?_
        refine x_icmp_ge_f (pc := 5) C 51 dX12_keeps_5 (by decide) (nI_ge (by omega) (by decide)) ?_
        refine x_aload_n (pc := 8) C 1 dX12_keeps_8 rfl ?_
        refine g_M_frames (pc := 9) C E q11_19 dX12_keeps_9 ?_
        refine x_bipush (pc := 12) (v := (nI 96)) C dX12_keeps_12 (by decide) ?_
        refine x_iload_n (pc := 14) C 2 dX12_keeps_14 rfl ?_
        refine x_imul (pc := 15) C dX12_keeps_15 ?_
        refine x_eq (show (nI 96) * (nI L) = nI (96 * L) from pk_mul _ _) ?_
        refine x_iload_n (pc := 16) C 0 dX12_keeps_16 rfl ?_
        refine x_iadd (pc := 17) C dX12_keeps_17 ?_
        refine x_eq (show (nI (96 * L)) + (nI q) = nI (96 * L + q) from nI_add _ _) ?_
        refine x_aload_n (pc := 18) C 1 dX12_keeps_18 rfl ?_
        refine g_M_contents (pc := 19) C E q11_17 dX12_keeps_19 ?_
        refine x_iload_n (pc := 22) C 0 dX12_keeps_22 rfl ?_
        refine l_Rcontents (pc := 23) C E (by omega) dX12_keeps_23 ?_
        refine s_Rframes (pc := 24) C E (by omega) dX12_keeps_24 ?_
        refine x_aload_n (pc := 25) C 1 dX12_keeps_25 rfl ?_
        refine g_M_frames (pc := 26) C E q11_19 dX12_keeps_26 ?_
        refine x_bipush (pc := 29) (v := (nI 96)) C dX12_keeps_29 (by decide) ?_
        refine x_iload_n (pc := 31) C 2 dX12_keeps_31 rfl ?_
        refine x_imul (pc := 32) C dX12_keeps_32 ?_
        refine x_eq (show (nI 96) * (nI L) = nI (96 * L) from pk_mul _ _) ?_
        refine x_bipush (pc := 33) (v := (nI 48)) C dX12_keeps_33 (by decide) ?_
        refine x_iadd (pc := 35) C dX12_keeps_35 ?_
        refine x_eq (show (nI (96 * L)) + (nI 48) = nI (96 * L + 48) from nI_add _ _) ?_
        refine x_iload_n (pc := 36) C 0 dX12_keeps_36 rfl ?_
        refine x_iadd (pc := 37) C dX12_keeps_37 ?_
        refine x_eq (show (nI (96 * L + 48)) + (nI q) = nI (96 * L + 48 + q) from nI_add _ _) ?_
        refine x_aload_n (pc := 38) C 1 dX12_keeps_38 rfl ?_
        refine g_M_stamps (pc := 39) C E q11_18 dX12_keeps_39 ?_
        refine x_iload_n (pc := 42) C 0 dX12_keeps_42 rfl ?_
        refine l_Rstamps (pc := 43) C E (by omega) dX12_keeps_43 ?_
        refine s_Rframes (pc := 44) C E (by omega) dX12_keeps_44 ?_
        refine x_iinc (pc := 45) (v := nI (q + 1)) (L' := [(2, .int (nI (q + 1))), (0, .ref (t.1 0)), (1, .int (nI L))]) C 0 dX12_keeps_45 rfl (nI_1 _) (by decide) rfl ?_
        refine x_goto (pc := 48) C 2 dX12_keeps_48 (by decide) ?_
        refine x_sub [0, 1, 2] rfl ?_
        refine ih (q + 1) _ _ (by omega) rfl ⟨fun j hj => ?_, fun a b hab => ?_⟩
        · by_cases g : j = q
          · subst g
            exact ⟨by rw [mu_k _ _ _ _ (by omega), mu_s]; exact eMx.2 _ _ (by omega), by rw [mu_s, mu_n _ _ _ _ (by decide)]; exact eMx.2 _ _ (by omega)⟩
          · have := eMx.1 j (by omega)
            exact ⟨by rw [mu_k _ _ _ _ (by omega), mu_k _ _ _ _ (by omega)]; exact this.1, by rw [mu_k _ _ _ _ (by omega), mu_k _ _ _ _ (by omega)]; exact this.2⟩
        · rw [mu_at, if_neg (by omega), mu_at, if_neg (by omega)]
          exact eMx.2 a b hab
  refine x_sub [0, 1, 2] rfl ?_
  exact loop2 48 0 _ M (by omega) rfl ⟨fun j hj => absurd hj (Nat.not_lt_zero _), fun _ _ _ => rfl⟩

set_option maxRecDepth 100000 in
set_option maxHeartbeats 800000 in
theorem c_X12_laysBack (t : CT) (M : MM) {L : Nat} (hL : L < 5) : XMet (wR t) yX12_laysBack cX12_laysBack 3 none 1 [.ref (t.1 0), .int (nI L)] M (fun r B => r = none ∧ LbR L 48 M B) := by
  refine x_met RX12 (by decide) rfl (Nat.le_of_ble_eq_true rfl) (fun κ C X E => ?_)
  refine x_L (L' := [(0, .ref (t.1 0)), (1, .int (nI L))]) rfl ?_
  refine x_iconst (pc := 0) (v := (nI 0)) C dX12_laysBack_0 (by decide) ?_
  refine x_istore_n (pc := 1) (L' := [(2, .int (nI 0)), (0, .ref (t.1 0)), (1, .int (nI L))]) C dX12_laysBack_1 (by decide) rfl ?_
  have loop2 : ∀ (k q : Nat) (y : Int32) (Mx : MM) , q + k = 48 → y = nI q → LbR L q M Mx → XV κ (xP (wR t) Mx) 2 [(2, .int y), (0, .ref (t.1 0)), (1, .int (nI L))] [] := by
    intro k
    induction k with
      | zero =>
        intro q y Mx  hcnt ey eMx
        subst ey
        obtain rfl : 48 = q := by omega
        refine x_iload_n (pc := 2) C 0 dX12_laysBack_2 rfl ?_
        refine x_bipush (pc := 3) (v := (nI 48)) C dX12_laysBack_3 (by decide) ?_
        refine x_icmp_ge_t (pc := 5) C 51 dX12_laysBack_5 (by decide) (nI_le (by omega) (by decide)) ?_
        exact x_vret (pc := 51) C X dX12_laysBack_51 ⟨rfl, eMx⟩
      | succ k ih =>
        intro q y Mx  hcnt ey eMx
        subst ey
        have hi2 : q < 48 := by omega
        refine x_iload_n (pc := 2) C 0 dX12_laysBack_2 rfl ?_
        refine x_bipush (pc := 3) (v := (nI 48)) C dX12_laysBack_3 (by decide) ?_
        refine x_icmp_ge_f (pc := 5) C 51 dX12_laysBack_5 (by decide) (nI_ge (by omega) (by decide)) ?_
        refine x_aload_n (pc := 8) C 1 dX12_laysBack_8 rfl ?_
        refine g_M_contents (pc := 9) C E q11_17 dX12_laysBack_9 ?_
        refine x_iload_n (pc := 12) C 0 dX12_laysBack_12 rfl ?_
        refine x_aload_n (pc := 13) C 1 dX12_laysBack_13 rfl ?_
        refine g_M_frames (pc := 14) C E q11_19 dX12_laysBack_14 ?_
        refine x_bipush (pc := 17) (v := (nI 96)) C dX12_laysBack_17 (by decide) ?_
        refine x_iload_n (pc := 19) C 2 dX12_laysBack_19 rfl ?_
        refine x_imul (pc := 20) C dX12_laysBack_20 ?_
        refine x_eq (show (nI 96) * (nI L) = nI (96 * L) from pk_mul _ _) ?_
        refine x_iload_n (pc := 21) C 0 dX12_laysBack_21 rfl ?_
        refine x_iadd (pc := 22) C dX12_laysBack_22 ?_
        refine x_eq (show (nI (96 * L)) + (nI q) = nI (96 * L + q) from nI_add _ _) ?_
        refine l_Rframes (pc := 23) C E (by omega) dX12_laysBack_23 ?_
        refine s_Rcontents (pc := 24) C E (by omega) dX12_laysBack_24 ?_
        refine x_aload_n (pc := 25) C 1 dX12_laysBack_25 rfl ?_
        refine g_M_stamps (pc := 26) C E q11_18 dX12_laysBack_26 ?_
        refine x_iload_n (pc := 29) C 0 dX12_laysBack_29 rfl ?_
        refine x_aload_n (pc := 30) C 1 dX12_laysBack_30 rfl ?_
        refine g_M_frames (pc := 31) C E q11_19 dX12_laysBack_31 ?_
        refine x_bipush (pc := 34) (v := (nI 96)) C dX12_laysBack_34 (by decide) ?_
        refine x_iload_n (pc := 36) C 2 dX12_laysBack_36 rfl ?_
        refine x_imul (pc := 37) C dX12_laysBack_37 ?_
        refine x_eq (show (nI 96) * (nI L) = nI (96 * L) from pk_mul _ _) ?_
        refine x_bipush (pc := 38) (v := (nI 48)) C dX12_laysBack_38 (by decide) ?_
        refine x_iadd (pc := 40) C dX12_laysBack_40 ?_
        refine x_eq (show (nI (96 * L)) + (nI 48) = nI (96 * L + 48) from nI_add _ _) ?_
        refine x_iload_n (pc := 41) C 0 dX12_laysBack_41 rfl ?_
        refine x_iadd (pc := 42) C dX12_laysBack_42 ?_
        refine x_eq (show (nI (96 * L + 48)) + (nI q) = nI (96 * L + 48 + q) from nI_add _ _) ?_
        refine l_Rframes (pc := 43) C E (by omega) dX12_laysBack_43 ?_
        refine s_Rstamps (pc := 44) C E (by omega) dX12_laysBack_44 ?_
        refine x_iinc (pc := 45) (v := nI (q + 1)) (L' := [(2, .int (nI (q + 1))), (0, .ref (t.1 0)), (1, .int (nI L))]) C 0 dX12_laysBack_45 rfl (nI_1 _) (by decide) rfl ?_
        refine x_goto (pc := 48) C 2 dX12_laysBack_48 (by decide) ?_
        refine x_sub [0, 1, 2] rfl ?_
        refine ih (q + 1) _ _ (by omega) rfl ⟨fun j hj => ?_, fun a b h6 h7 => ?_⟩
        · by_cases g : j = q
          · subst g
            exact ⟨by rw [mu_n _ _ _ _ (by decide), mu_s]; exact eMx.2 _ _ (by decide) (by decide), by rw [mu_s, mu_n _ _ _ _ (by decide)]; exact eMx.2 _ _ (by decide) (by decide)⟩
          · have := eMx.1 j (by omega)
            exact ⟨by rw [mu_n _ _ _ _ (by decide), mu_k _ _ _ _ g]; exact this.1, by rw [mu_k _ _ _ _ g, mu_n _ _ _ _ (by decide)]; exact this.2⟩
        · rw [mu_n _ _ _ _ h7, mu_n _ _ _ _ h6]
          exact eMx.2 a b h6 h7
  refine x_sub [0, 1, 2] rfl ?_
  exact loop2 48 0 _ M (by omega) rfl ⟨fun j hj => absurd hj (Nat.not_lt_zero _), fun _ _ _ _ => rfl⟩

set_option maxRecDepth 100000 in
set_option maxHeartbeats 800000 in
theorem c_X12_isPlan (t : CT) {σ : SV} {M : MM} (h : RR σ M) {s : Nat} (hs : s < 4) (hss : (sH σ s).1 ≠ -1) : XMet (wR t) yX12_isPlan cX12_isPlan 3 (some .boolean) 3 [.ref (t.1 0), .int (nI s)] M (rI (b2i (decide ((sH σ s).2.1 % 2 = 0) && sTd σ s)) M) := by
  refine x_met RX12 (by decide) rfl (Nat.le_of_ble_eq_true rfl) (fun κ C X E => ?_)
  refine x_L (L' := [(0, .ref (t.1 0)), (1, .int (nI s))]) rfl ?_
  have hn6 := rr_n6 h
  have hs40 := (h.1.2.2.2.2 s hs).1
  refine x_aload_n (pc := 0) C 0 dX12_isPlan_0 rfl ?_
  refine g_M_sheetSize (pc := 1) C E q12_3 dX12_isPlan_1 ?_
  refine x_iload_n (pc := 4) C 1 dX12_isPlan_4 rfl ?_
  refine l_RsheetSize (pc := 5) C E (by omega) dX12_isPlan_5 ?_
  refine x_eq (show M 14 s = nI (sH (σ) s).2.1 from (rr_sz h (by omega) hss)) ?_
  refine x_iconst (pc := 6) (v := (nI 2)) C dX12_isPlan_6 (by decide) ?_
  refine x_irem (pc := 7) C dX12_isPlan_7 (by decide) ?_
  refine x_eq (show (nI (sH (σ) s).2.1) - (nI (sH (σ) s).2.1) / (nI 2) * (nI 2) = nI ((sH σ s).2.1 % 2) from (pk_rem (by omega) (by decide) (by decide))) ?_
  refine x_if_eq (pc := 8) C 13 dX12_isPlan_8 (by decide) (fun h8 => ?_) (fun h8 => ?_)
  · have hev : (sH σ s).2.1 % 2 = 0 := (nI_eq (b := 0) (by omega) (by decide)).mp h8
    refine x_iconst (pc := 13) (v := (nI 0)) C dX12_isPlan_13 (by decide) ?_
    refine x_istore_n (pc := 14) (L' := [(2, .int (nI 0)), (0, .ref (t.1 0)), (1, .int (nI s))]) C dX12_isPlan_14 (by decide) rfl ?_
    have loop15 : ∀ (k i : Nat) (y : Int32) , i + k = (sH σ s).2.1 → y = nI i → tdG σ s i k = sTd σ s → XV κ (xP (wR t) M) 15 [(2, .int y), (0, .ref (t.1 0)), (1, .int (nI s))] [] := by
      intro k
      induction k with
        | zero =>
          intro i y  hcnt ey hg2
          subst ey
          obtain rfl : (sH σ s).2.1 = i := by omega
          refine x_iload_n (pc := 15) C 0 dX12_isPlan_15 rfl ?_
          refine x_aload_n (pc := 16) C 1 dX12_isPlan_16 rfl ?_
          refine g_M_sheetSize (pc := 17) C E q12_3 dX12_isPlan_17 ?_
          refine x_iload_n (pc := 20) C 2 dX12_isPlan_20 rfl ?_
          refine l_RsheetSize (pc := 21) C E (by omega) dX12_isPlan_21 ?_
          refine x_eq (show M 14 s = nI (sH (σ) s).2.1 from (rr_sz h (by omega) hss)) ?_
          refine x_icmp_ge_t (pc := 22) C 51 dX12_isPlan_22 (by decide) (nI_le (by omega) (by omega)) ?_
          refine x_iconst (pc := 51) (v := 1) C dX12_isPlan_51 rfl ?_
          exact x_bret (pc := 52) C X (b := true) rfl dX12_isPlan_52 (rI_b (Eq.symm (by rw [decide_eq_true hev, Bool.true_and, ← hg2]; rfl)))
        | succ k ih =>
          intro i y  hcnt ey hg2
          subst ey
          have hi15 : i < (sH σ s).2.1 := by omega
          refine x_iload_n (pc := 15) C 0 dX12_isPlan_15 rfl ?_
          refine x_aload_n (pc := 16) C 1 dX12_isPlan_16 rfl ?_
          refine g_M_sheetSize (pc := 17) C E q12_3 dX12_isPlan_17 ?_
          refine x_iload_n (pc := 20) C 2 dX12_isPlan_20 rfl ?_
          refine l_RsheetSize (pc := 21) C E (by omega) dX12_isPlan_21 ?_
          refine x_eq (show M 14 s = nI (sH (σ) s).2.1 from (rr_sz h (by omega) hss)) ?_
          refine x_icmp_ge_f (pc := 22) C 51 dX12_isPlan_22 (by decide) (nI_ge (by omega) (by omega)) ?_
          refine x_aload_n (pc := 25) C 1 dX12_isPlan_25 rfl ?_
          refine x_aload_n (pc := 26) C 1 dX12_isPlan_26 rfl ?_
          refine g_M_items (pc := 27) C E q12_4 dX12_isPlan_27 ?_
          refine x_bipush (pc := 30) (v := (nI 40)) C dX12_isPlan_30 (by decide) ?_
          refine x_iload_n (pc := 32) C 2 dX12_isPlan_32 rfl ?_
          refine x_imul (pc := 33) C dX12_isPlan_33 ?_
          refine x_eq (show (nI 40) * (nI s) = nI (40 * s) from pk_mul _ _) ?_
          refine x_iload_n (pc := 34) C 0 dX12_isPlan_34 rfl ?_
          refine x_iadd (pc := 35) C dX12_isPlan_35 ?_
          refine x_eq (show (nI (40 * s)) + (nI i) = nI (40 * s + i) from nI_add _ _) ?_
          refine l_Ritems (pc := 36) C E (by omega) dX12_isPlan_36 ?_
          refine x_eq (show M 15 (40 * s + i) = (sH (σ) s).2.2 i from (rr_it h (by omega) hss (by omega))) ?_
          refine x_callV (pc := 37) C E [.int ((sH (σ) s).2.2 i)] [] ( c_X12_isDisk t h _) m_X12_isDisk q13_9 xo_M rfl (by decide) (Nat.le_of_ble_eq_true rfl) dX12_isPlan_37 rfl (k_I ?_)
          refine x_ifb_ne (pc := 40) C 45 dX12_isPlan_40 (by decide) (fun h40 => ?_) (fun h40 => ?_)
          · refine x_iinc (pc := 45) (v := nI (i + 1)) (L' := [(2, .int (nI (i + 1))), (0, .ref (t.1 0)), (1, .int (nI s))]) C 0 dX12_isPlan_45 rfl (nI_1 _) (by decide) rfl ?_
            refine x_goto (pc := 48) C 15 dX12_isPlan_48 (by decide) ?_
            refine x_sub [0, 1, 2] rfl ?_
            exact ih (i + 1) _ (by omega) rfl (by rw [← hg2, tdG, h40]; rfl)
          · refine x_iconst (pc := 43) (v := 0) C dX12_isPlan_43 rfl ?_
            exact x_bret (pc := 44) C X (b := false) rfl dX12_isPlan_44 (rI_b (Eq.symm (by rw [decide_eq_true hev, Bool.true_and, ← hg2, tdG, h40]; rfl)))
    refine x_sub [0, 1, 2] rfl ?_
    exact loop15 _ 0 _ (by omega) rfl rfl
  · refine x_iconst (pc := 11) (v := 0) C dX12_isPlan_11 rfl ?_
    exact x_bret (pc := 12) C X (b := false) rfl dX12_isPlan_12 (rI_b (Eq.symm (by rw [decide_eq_false (fun e => h8 (by rw [e]; rfl))]; rfl)))

def zF (σ : SV) (s : Int32) : Nat → Int32
  | 0 => s
  | d + 1 => if vRd (sV σ) d = true then lzN (zF σ s d) else zF σ s d
def gpF (σ : SV) (s : Int32) (d : Nat) : Bool := vRd (sV σ) d && decide (lzR (lzN (zF σ s d)) < sLi σ (vR (sV σ)) (vU (sV σ) d))
def gbS (σ : SV) (s : Int32) : Int32 := mk (gpF σ s) (vN (sV σ))
set_option maxRecDepth 100000 in
set_option maxHeartbeats 800000 in
theorem c_X12_goneBy (t : CT) {σ : SV} {M : MM} (h : RR σ M) (x1 : Int32) : XMet (wR t) yX12_goneBy cX12_goneBy 5 (some .int) 65 [.ref (t.1 0), .int x1] M (sQ M (gbS σ x1)) := by
  refine x_met RX12 (by decide) rfl (Nat.le_of_ble_eq_true rfl) (fun κ C X E => ?_)
  refine x_L (L' := [(0, .ref (t.1 0)), (1, .int x1)]) rfl ?_
  have hn6 := rr_n6 h
  refine x_iload_n (pc := 0) C 1 dX12_goneBy_0 rfl ?_
  refine x_istore_n (pc := 1) (L' := [(2, .int x1), (0, .ref (t.1 0)), (1, .int x1)]) C dX12_goneBy_1 (by decide) rfl ?_
  refine x_iconst (pc := 2) (v := 0) C dX12_goneBy_2 rfl ?_
  refine x_istore_n (pc := 3) (L' := [(3, .int 0), (2, .int x1), (0, .ref (t.1 0)), (1, .int x1)]) C dX12_goneBy_3 (by decide) rfl ?_
  refine x_iconst (pc := 4) (v := (nI 0)) C dX12_goneBy_4 (by decide) ?_
  refine x_istore (pc := 5) (L' := [(4, .int (nI 0)), (3, .int 0), (2, .int x1), (0, .ref (t.1 0)), (1, .int x1)]) C dX12_goneBy_5 (by decide) rfl ?_
  have loop7 : ∀ (k d : Nat) (z : Int32) (x : Int32) (y : Int32) (Mx : MM) , d + k = vN (sV σ) → z = zF σ x1 d → x = mk (gpF σ x1) d → y = nI d → Sc M Mx → XV κ (xP (wR t) Mx) 7 [(4, .int y), (3, .int x), (2, .int z), (0, .ref (t.1 0)), (1, .int x1)] [] := by
    intro k
    induction k with
      | zero =>
        intro d z x y Mx  hcnt ez ex ey eMx
        subst ez
        subst ex
        subst ey
        obtain rfl : vN (sV σ) = d := by omega
        refine x_iload (pc := 7) C 0 dX12_goneBy_7 rfl ?_
        refine x_aload_n (pc := 9) C 3 dX12_goneBy_9 rfl ?_
        refine g_M_many (pc := 10) C E q13_13 dX12_goneBy_10 ?_
        refine x_eq (show Mx 0 12 = nI (vN (sV (σ))) from (rr_size (rr_Sc h eMx))) ?_
        refine x_icmp_ge_t (pc := 13) C 68 dX12_goneBy_13 (by decide) (nI_le (by omega) (by omega)) ?_
        refine x_iload_n (pc := 68) C 1 dX12_goneBy_68 rfl ?_
        exact x_iret (pc := 69) C X dX12_goneBy_69 ⟨rfl, eMx⟩
      | succ k ih =>
        intro d z x y Mx  hcnt ez ex ey eMx
        subst ez
        subst ex
        subst ey
        have hi7 : d < vN (sV σ) := by omega
        refine x_iload (pc := 7) C 0 dX12_goneBy_7 rfl ?_
        refine x_aload_n (pc := 9) C 3 dX12_goneBy_9 rfl ?_
        refine g_M_many (pc := 10) C E q13_13 dX12_goneBy_10 ?_
        refine x_eq (show Mx 0 12 = nI (vN (sV (σ))) from (rr_size (rr_Sc h eMx))) ?_
        refine x_icmp_ge_f (pc := 13) C 68 dX12_goneBy_13 (by decide) (nI_ge (by omega) (by omega)) ?_
        refine x_aload_n (pc := 16) C 3 dX12_goneBy_16 rfl ?_
        refine x_iload (pc := 17) C 0 dX12_goneBy_17 rfl ?_
        refine x_callV (pc := 19) C E [.int (nI d)] [] ( c_X12_reads t (rr_Sc h eMx) (d := d) (by omega)) m_X12_reads q13_20 xo_M rfl (by decide) (Nat.le_of_ble_eq_true rfl) dX12_goneBy_19 rfl (k_I ?_)
        refine x_ifb_eq (pc := 22) C 62 dX12_goneBy_22 (by decide) (fun h22 => ?_) (fun h22 => ?_)
        · refine x_iinc (pc := 62) (v := nI (d + 1)) (L' := [(4, .int (nI (d + 1))), (3, .int (mk (gpF σ x1) d)), (2, .int (zF σ x1 d)), (0, .ref (t.1 0)), (1, .int x1)]) C 0 dX12_goneBy_62 rfl (nI_1 _) (by decide) rfl ?_
          refine x_goto (pc := 65) C 7 dX12_goneBy_65 (by decide) ?_
          refine x_sub [0, 1, 2, 3, 4] rfl ?_
          exact ih (d + 1) _ _ _ _ (by omega) (by rw [zF, if_neg (by rw [h22]; decide)]) (mk_f (p := gpF σ x1) (by unfold gpF; rw [h22]; rfl)).symm rfl eMx
        · refine x_iload_n (pc := 25) C 2 dX12_goneBy_25 rfl ?_
          refine x_ldcw (pc := 26) (v := 1103515245) C q44_13 dX12_goneBy_26 ?_
          refine x_imul (pc := 29) C dX12_goneBy_29 ?_
          refine x_sipush (pc := 30) (v := 12345) C dX12_goneBy_30 rfl ?_
          refine x_iadd (pc := 33) C dX12_goneBy_33 ?_
          refine x_eq (show ((zF σ x1 d) * 1103515245) + 12345 = lzN (zF σ x1 d) from rfl) ?_
          refine x_istore_n (pc := 34) (L' := [(2, .int (lzN (zF σ x1 d))), (4, .int (nI d)), (3, .int (mk (gpF σ x1) d)), (0, .ref (t.1 0)), (1, .int x1)]) C dX12_goneBy_34 (by decide) rfl ?_
          refine x_iload_n (pc := 35) C 2 dX12_goneBy_35 rfl ?_
          refine x_iload_n (pc := 36) C 0 dX12_goneBy_36 rfl ?_
          refine x_bipush (pc := 37) (v := 9) C dX12_goneBy_37 rfl ?_
          refine x_iushr (pc := 39) C dX12_goneBy_39 ?_
          refine x_bipush (pc := 40) (v := 100) C dX12_goneBy_40 rfl ?_
          refine x_irem (pc := 42) C dX12_goneBy_42 (by decide) ?_
          refine x_eq (show ((Int32.toUInt32 (lzN (zF σ x1 d)) >>> (Int32.toUInt32 9 &&& Int32.toUInt32 31)).toInt32) - ((Int32.toUInt32 (lzN (zF σ x1 d)) >>> (Int32.toUInt32 9 &&& Int32.toUInt32 31)).toInt32) / 100 * 100 = lzR (lzN (zF σ x1 d)) from rfl) ?_
          refine x_aload_n (pc := 43) C 3 dX12_goneBy_43 rfl ?_
          refine x_iload (pc := 44) C 1 dX12_goneBy_44 rfl ?_
          refine x_callV (pc := 46) C E [.int (nI d)] [.int (lzR (lzN (zF σ x1 d))), .int (mk (gpF σ x1) d)] (c_X12_goesOf t (rr_Sc h eMx) (d := d) (by omega)) m_X12_goesOf q14_12 xo_M rfl (by first | decide | omega) (Nat.le_of_ble_eq_true rfl) dX12_goneBy_46 rfl (fun r M46 hc46 => ?_)
          obtain ⟨rfl, hS46⟩ := hc46
          show XV κ (xP (wR t) M46) 49 _ [.int (sLi (σ) (vR (sV (σ))) (vU (sV (σ)) d)), .int (lzR (lzN (zF σ x1 d))), .int (mk (gpF σ x1) d)]
          refine x_icmp_ge (pc := 49) C 56 dX12_goneBy_49 (by decide) (fun h49 => ?_) (fun h49 => ?_)
          · refine x_iconst (pc := 56) (v := 0) C dX12_goneBy_56 rfl ?_
            refine x_iload (pc := 57) C 1 dX12_goneBy_57 rfl ?_
            refine x_ishl (pc := 59) C dX12_goneBy_59 ?_
            refine x_ior (pc := 60) C dX12_goneBy_60 ?_
            refine x_istore_n (pc := 61) (L' := [(3, .int ((mk (gpF σ x1) d) ||| (0 <<< ((nI d) &&& 31)))), (2, .int (lzN (zF σ x1 d))), (4, .int (nI d)), (0, .ref (t.1 0)), (1, .int x1)]) C dX12_goneBy_61 (by decide) rfl ?_
            refine x_iinc (pc := 62) (v := nI (d + 1)) (L' := [(4, .int (nI (d + 1))), (3, .int ((mk (gpF σ x1) d) ||| (0 <<< ((nI d) &&& 31)))), (2, .int (lzN (zF σ x1 d))), (0, .ref (t.1 0)), (1, .int x1)]) C 2 dX12_goneBy_62 rfl (nI_1 _) (by decide) rfl ?_
            refine x_goto (pc := 65) C 7 dX12_goneBy_65 (by decide) ?_
            refine x_sub [0, 1, 2, 3, 4] rfl ?_
            exact ih (d + 1) _ _ _ _ (by omega) (by rw [zF, if_pos h22]) (mk_z (p := gpF σ x1) (by unfold gpF; rw [h22, decide_eq_false (Int32.not_lt.mpr h49)]; rfl)) rfl (eMx.tr hS46)
          · refine x_iconst (pc := 52) (v := 1) C dX12_goneBy_52 rfl ?_
            refine x_goto (pc := 53) C 57 dX12_goneBy_53 (by decide) ?_
            refine x_iload (pc := 57) C 1 dX12_goneBy_57 rfl ?_
            refine x_ishl (pc := 59) C dX12_goneBy_59 ?_
            refine x_ior (pc := 60) C dX12_goneBy_60 ?_
            refine x_istore_n (pc := 61) (L' := [(3, .int ((mk (gpF σ x1) d) ||| (1 <<< ((nI d) &&& 31)))), (2, .int (lzN (zF σ x1 d))), (4, .int (nI d)), (0, .ref (t.1 0)), (1, .int x1)]) C dX12_goneBy_61 (by decide) rfl ?_
            refine x_iinc (pc := 62) (v := nI (d + 1)) (L' := [(4, .int (nI (d + 1))), (3, .int ((mk (gpF σ x1) d) ||| (1 <<< ((nI d) &&& 31)))), (2, .int (lzN (zF σ x1 d))), (0, .ref (t.1 0)), (1, .int x1)]) C 2 dX12_goneBy_62 rfl (nI_1 _) (by decide) rfl ?_
            refine x_goto (pc := 65) C 7 dX12_goneBy_65 (by decide) ?_
            refine x_sub [0, 1, 2, 3, 4] rfl ?_
            exact ih (d + 1) _ _ _ _ (by omega) (by rw [zF, if_pos h22]) (mk_t (p := gpF σ x1) (by unfold gpF; rw [h22, decide_eq_true (Int32.not_le.mp h49)]; rfl)) rfl (eMx.tr hS46)
  refine x_sub [0, 1, 2, 3, 4] rfl ?_
  exact loop7 (vN (sV σ)) 0 _ _ _ M (by omega) rfl rfl rfl Sc.rf

set_option maxRecDepth 100000 in
set_option maxHeartbeats 800000 in
theorem c_X12_comesTo (t : CT) {σ : SV} {M : MM} (h : RR σ M) (hg : M 0 28 = 0) {s : Nat} (hs : s < 4) (hss : (sH σ s).1 ≠ -1) (h8 : (sH σ s).2.1 = 8) {a d : Nat} (ha : a < vN (sV σ)) (hd : d < vN (sV σ)) : XMet (wR t) yX12_comesTo cX12_comesTo 5 (some .boolean) 66 [.ref (t.1 0), .int (nI s), .int (nI a), .int (nI d)] M (fun r B => r = some (.int (b2i (!decide (a = d) && ctX σ (vR (sV σ)) (sV σ) s a d))) ∧ RR σ B ∧ B 0 28 = 0 ∧ FrK 1 M B) := by
  refine x_met RX12 (by decide) rfl (Nat.le_of_ble_eq_true rfl) (fun κ C X E => ?_)
  refine x_L (L' := [(0, .ref (t.1 0)), (1, .int (nI s)), (2, .int (nI a)), (3, .int (nI d))]) rfl ?_
  have hn6 := rr_n6 h
  have hwn := (sCp_rest σ (sV σ) a d).1
  refine x_aload_n (pc := 0) C 0 dX12_comesTo_0 rfl ?_
  refine x_iload_n (pc := 1) C 2 dX12_comesTo_1 rfl ?_
  refine x_iload_n (pc := 2) C 3 dX12_comesTo_2 rfl ?_
  refine x_callV (pc := 3) C E [.int (nI a), .int (nI d)] [] ( c_X12_canCopy t h (a := a) (b := d) (by omega) (by omega)) m_X12_canCopy q30_20 xo_M rfl (by decide) (Nat.le_of_ble_eq_true rfl) dX12_comesTo_3 rfl (k_I ?_)
  refine x_ifb_ne (pc := 6) C 11 dX12_comesTo_6 (by decide) (fun h6 => ?_) (fun h6 => ?_)
  · refine x_aload_n (pc := 11) C 0 dX12_comesTo_11 rfl ?_
    refine x_iconst (pc := 12) (v := (nI 0)) C dX12_comesTo_12 (by decide) ?_
    refine x_callV (pc := 13) C E [.int (nI 0)] [] (c_X12_keeps t _ (L := 0) (by omega)) m_X12_keeps q36_19 xo_M rfl (by first | decide | omega) (Nat.le_of_ble_eq_true rfl) dX12_comesTo_13 rfl (fun r M13 hc13 => ?_)
    obtain ⟨rfl, hK13⟩ := hc13
    have hR13 := rr_kp h hK13
    show XV κ (xP (wR t) M13) 16 _ []
    refine x_aload_n (pc := 16) C 0 dX12_comesTo_16 rfl ?_
    refine x_iload_n (pc := 17) C 2 dX12_comesTo_17 rfl ?_
    refine x_iload_n (pc := 18) C 3 dX12_comesTo_18 rfl ?_
    refine x_callV (pc := 19) C E [.int (nI a), .int (nI d)] [] (c_X12_copiesAll t hR13 (a := a) (b := d) (by omega) (by omega)) m_X12_copiesAll q31_0 xo_M rfl (by first | decide | omega) (Nat.le_of_ble_eq_true rfl) dX12_comesTo_19 rfl (fun r M19 hc19 => ?_)
    obtain ⟨rfl, hR19, hF19⟩ := hc19
    show XV κ (xP (wR t) M19) 22 _ [.int (nI (sCp (σ) (sV (σ)) a d).2)]
    refine x_pop (pc := 22) C dX12_comesTo_22 rfl ?_
    refine x_aload_n (pc := 23) C 0 dX12_comesTo_23 rfl ?_
    refine x_iload_n (pc := 24) C 1 dX12_comesTo_24 rfl ?_
    refine x_iload_n (pc := 25) C 3 dX12_comesTo_25 rfl ?_
    refine x_callV (pc := 26) C E [.int (nI s), .int (nI d)] [] (c_X12_unlike t hR19 hs hss h8 (d := d) (show d < vN ((sCp (σ) (sV (σ)) a d).1) by omega)) m_X12_unlike q42_10 xo_M rfl (by first | decide | omega) (Nat.le_of_ble_eq_true rfl) dX12_comesTo_26 rfl (k_I ?_)
    refine x_eq (show _ = otX ((sCp (σ) (sV (σ)) a d).1) d σ s from rfl) ?_
    refine x_if_ne (pc := 29) C 36 dX12_comesTo_29 (by decide) (fun h29 => ?_) (fun h29 => ?_)
    · refine x_iconst (pc := 36) (v := 0) C dX12_comesTo_36 rfl ?_
      refine x_istore (pc := 37) (L' := [(4, .int 0), (0, .ref (t.1 0)), (1, .int (nI s)), (2, .int (nI a)), (3, .int (nI d))]) C dX12_comesTo_37 (by decide) rfl ?_
      refine x_aload_n (pc := 39) C 1 dX12_comesTo_39 rfl ?_
      refine x_iconst (pc := 40) (v := (nI 0)) C dX12_comesTo_40 (by decide) ?_
      refine x_callV (pc := 41) C E [.int (nI 0)] [] (c_X12_laysBack t _ (L := 0) (by omega)) m_X12_laysBack q36_23 xo_M rfl (by first | decide | omega) (Nat.le_of_ble_eq_true rfl) dX12_comesTo_41 rfl (fun r M41 hc41 => ?_)
      obtain ⟨rfl, hL41⟩ := hc41
      obtain ⟨hB41, hZ41⟩ := rr_back h hK13 (FrK.c hF19) hL41
      show XV κ (xP (wR t) M41) 44 _ []
      refine x_iload (pc := 44) C 0 dX12_comesTo_44 rfl ?_
      exact x_bret (pc := 46) C X (b := false) rfl dX12_comesTo_46 ⟨by rw [show (!decide (a = d) && ctX σ (vR (sV σ)) (sV σ) s a d) = false from (by rw [Bool.and_eq_true] at h6; unfold ctX; rw [h6.1, h6.2, decide_eq_false (show ¬ otX (sCq σ (vR (sV σ)) (sV σ) a d).1 d σ s = 0 from h29)]; rfl)], hB41, ((hZ41 _ _ (by decide) (by decide) (by omega) (by omega)).trans hg), hZ41⟩
    · refine x_iconst (pc := 32) (v := 1) C dX12_comesTo_32 rfl ?_
      refine x_goto (pc := 33) C 37 dX12_comesTo_33 (by decide) ?_
      refine x_istore (pc := 37) (L' := [(4, .int 1), (0, .ref (t.1 0)), (1, .int (nI s)), (2, .int (nI a)), (3, .int (nI d))]) C dX12_comesTo_37 (by decide) rfl ?_
      refine x_aload_n (pc := 39) C 1 dX12_comesTo_39 rfl ?_
      refine x_iconst (pc := 40) (v := (nI 0)) C dX12_comesTo_40 (by decide) ?_
      refine x_callV (pc := 41) C E [.int (nI 0)] [] (c_X12_laysBack t _ (L := 0) (by omega)) m_X12_laysBack q36_23 xo_M rfl (by first | decide | omega) (Nat.le_of_ble_eq_true rfl) dX12_comesTo_41 rfl (fun r M41 hc41 => ?_)
      obtain ⟨rfl, hL41⟩ := hc41
      obtain ⟨hB41, hZ41⟩ := rr_back h hK13 (FrK.c hF19) hL41
      show XV κ (xP (wR t) M41) 44 _ []
      refine x_iload (pc := 44) C 0 dX12_comesTo_44 rfl ?_
      exact x_bret (pc := 46) C X (b := true) rfl dX12_comesTo_46 ⟨by rw [show (!decide (a = d) && ctX σ (vR (sV σ)) (sV σ) s a d) = true from (by rw [Bool.and_eq_true] at h6; unfold ctX; rw [h6.1, h6.2, decide_eq_true (show otX (sCq σ (vR (sV σ)) (sV σ) a d).1 d σ s = 0 from h29)]; rfl)], hB41, ((hZ41 _ _ (by decide) (by decide) (by omega) (by omega)).trans hg), hZ41⟩
  · refine x_iconst (pc := 9) (v := 0) C dX12_comesTo_9 rfl ?_
    exact x_bret (pc := 10) C X (b := false) rfl dX12_comesTo_10 ⟨by rw [show (!decide (a = d) && ctX σ (vR (sV σ)) (sV σ) s a d) = false from (by unfold ctX; cases g1 : decide (a = d) <;> cases g2 : (vRd (sV σ) a && vRd (sV σ) d) <;> simp_all)], h, hg, FrK.rf⟩

