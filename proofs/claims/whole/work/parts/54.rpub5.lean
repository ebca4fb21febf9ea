theorem vCp_0 {v : WV} {a b : Nat} {Ev : (Nat → Int32) → Int32} : ∀ n, (vCp v a b Ev n).2 = 0 → (vCp v a b Ev n).1 = v := by
  intro n
  induction n with
  | zero => intro _; rfl
  | succ n ih =>
    intro h
    rw [vCp] at h ⊢
    split at h
    · cases h
    · rename_i g
      rw [if_neg g]
      exact ih h
theorem sCp_0 {σ : SV} {v : WV} {a b : Nat} (h : (sCp σ v a b).2 = 0) : (sCp σ v a b).1 = v := by
  rw [← sCp_eq] at h ⊢
  exact vCp_0 8 h
theorem sCp_set (σ : SV) (u v : WV) (a b : Nat) (h : vR u = vR (sV σ)) : sCp (setV σ u) v a b = sCp σ v a b := by
  rw [← sCp_eq, ← sCp_eq]
  show vCp v a b (sT σ (vR u) 0) 8 = _
  rw [h]
theorem sCp_R (σ : SV) (v : WV) (a b : Nat) : vR (sCp σ v a b).1 = vR v := by
  rw [← sCp_eq]
  exact (vCp_n 8).2.2.1
def mkP (σ : SV) (k w : Int32) (l : Nat) (v : WV) (a b : Nat) : Bool := !decide (a = b) && (vRd v a && vRd v b) && decide (0 < (sCp σ v a b).2) && mkS σ k w l (sCp σ v a b).1
theorem mkS_set (σ : SV) (u : WV) (k w : Int32) (h : vR u = vR (sV σ)) : ∀ l v, mkS (setV σ u) k w l v = mkS σ k w l v := by
  intro l
  induction l with
  | zero => intro v; rfl
  | succ l ih =>
    intro v
    have e : ∀ a b, mkP (setV σ u) k w l v a b = mkP σ k w l v a b := fun a b => by
      unfold mkP
      rw [sCp_set σ u v a b h, ih]
    have e2 : anyN (fun a => anyN (mkP (setV σ u) k w l v a) (vN v)) (vN v) = anyN (fun a => anyN (mkP σ k w l v a) (vN v)) (vN v) := anyN_congr (fun a _ => anyN_congr (fun b _ => e a b))
    rw [mkS, mkS]
    exact congrArg (fun z => decide (ugX v k w = 0) || z) e2
theorem mkS_t {σ : SV} {k w : Int32} {v : WV} (h : ugX v k w = 0) : ∀ l, mkS σ k w l v = true := by
  intro l
  cases l with
  | zero => exact decide_eq_true h
  | succ l => rw [mkS, decide_eq_true h]; rfl
theorem mkS_S {σ : SV} {k w : Int32} {v : WV} (h : ¬ ugX v k w = 0) (l : Nat) : mkS σ k w (l + 1) v = anyN (fun p => mkP σ k w l v (p / vN v) (p % vN v)) (vN v * vN v) := by
  rw [mkS, decide_eq_false h, anyPQ (mkP σ k w l v)]
  rfl
theorem kp_fr {L q : Nat} {A B D : MM} (hK : KpR L q A B) (hF : FrK L B D) : FrK (L + 1) A D := fun a b h6 h7 h0 h8 => (hF a b h6 h7 h0 (by omega)).trans (hK.2 a b (by omega))
theorem rr_cp0 {σ : SV} {M : MM} {a b : Nat} (h : RR (setV σ (sCp σ (sV σ) a b).1) M) (h0 : nI (sCp σ (sV σ) a b).2 ≤ 0) : RR σ M := by
  have h8 := sCp_le σ (sV σ) a b
  rw [i_le, nI_toInt (by omega)] at h0
  have h1 : (sCp σ (sV σ) a b).2 = 0 := by
    have : ((sCp σ (sV σ) a b).2 : Int) ≤ 0 := h0
    omega
  rw [sCp_0 h1] at h
  exact h
set_option maxRecDepth 100000 in
set_option maxHeartbeats 800000 in
theorem c_X12_makesSafe0 (t : CT) {σ : SV} {M : MM} (h : RR σ M) (hg : M 0 28 = 0) (kk w : Int32) : XMet (wR t) yX12_makesSafe cX12_makesSafe 6 (some .boolean) 66 [.ref (t.1 0), .int kk, .int w, .int (nI 0)] M (fun r B => r = some (.int (b2i (mkS σ kk w 0 (sV σ)))) ∧ RR σ B ∧ B 0 28 = 0 ∧ FrK (0 + 1) M B) := by
  refine x_met RX12 (by decide) rfl (Nat.le_of_ble_eq_true rfl) (fun κ C X E => ?_)
  refine x_L (L' := [(0, .ref (t.1 0)), (1, .int kk), (2, .int w), (3, .int (nI 0))]) rfl ?_
  have hn6 := rr_n6 h
  refine x_iload_n (pc := 0) C 2 dX12_makesSafe_0 rfl ?_
  refine x_aload_n (pc := 1) C 0 dX12_makesSafe_1 rfl ?_
  refine x_iload_n (pc := 2) C 1 dX12_makesSafe_2 rfl ?_
  refine x_callV (pc := 3) C E [.int kk] [.int w] (c_X12_safe t h (gn := 0) hg kk) m_X12_safe q35_2 xo_M rfl (by first | decide | omega) (Nat.le_of_ble_eq_true rfl) dX12_makesSafe_3 rfl (k_I ?_)
  refine x_eq (show _ = vSafe (sV (σ)) kk from vSafeG_0 _ _) ?_
  refine x_iconst (pc := 6) (v := (-1)) C dX12_makesSafe_6 rfl ?_
  refine x_ixor (pc := 7) C dX12_makesSafe_7 ?_
  refine x_iand (pc := 8) C dX12_makesSafe_8 ?_
  refine x_eq (show w &&& ((vSafe (sV (σ)) kk) ^^^ (-1)) = ugX (sV σ) kk w from rfl) ?_
  refine x_if_ne (pc := 9) C 14 dX12_makesSafe_9 (by decide) (fun h9 => ?_) (fun h9 => ?_)
  · refine x_iload_n (pc := 14) C 3 dX12_makesSafe_14 rfl ?_
    refine x_if_ne_f (pc := 15) C 20 dX12_makesSafe_15 (by decide) (by decide) ?_
    refine x_iconst (pc := 18) (v := 0) C dX12_makesSafe_18 rfl ?_
    exact x_bret (pc := 19) C X (b := false) rfl dX12_makesSafe_19 ⟨by rw [show mkS σ kk w 0 (sV σ) = false from decide_eq_false h9], h, hg, FrK.rf⟩
  · refine x_iconst (pc := 12) (v := 1) C dX12_makesSafe_12 rfl ?_
    exact x_bret (pc := 13) C X (b := true) rfl dX12_makesSafe_13 ⟨by rw [mkS_t h9], h, hg, FrK.rf⟩

set_option maxRecDepth 100000 in
set_option maxHeartbeats 800000 in
theorem c_X12_makesSafeS (t : CT) {σ : SV} {M : MM} (h : RR σ M) (hg : M 0 28 = 0) (kk w : Int32) {l : Nat} (hl : l < 3) (hms : ∀ {σ : SV} {M : MM} (h : RR σ M) (hg : M 0 28 = 0), XMet (wR t) yX12_makesSafe cX12_makesSafe 6 (some .boolean) (66 + l) [.ref (t.1 0), .int kk, .int w, .int (nI l)] M (fun r B => r = some (.int (b2i (mkS σ kk w l (sV σ)))) ∧ RR σ B ∧ B 0 28 = 0 ∧ FrK (l + 1) M B))  : XMet (wR t) yX12_makesSafe cX12_makesSafe 6 (some .boolean) (66 + (l + 1)) [.ref (t.1 0), .int kk, .int w, .int (nI (l + 1))] M (fun r B => r = some (.int (b2i (mkS σ kk w (l + 1) (sV σ)))) ∧ RR σ B ∧ B 0 28 = 0 ∧ FrK ((l + 1) + 1) M B) := by
  refine x_met RX12 (by decide) rfl (Nat.le_of_ble_eq_true rfl) (fun κ C X E => ?_)
  refine x_L (L' := [(0, .ref (t.1 0)), (1, .int kk), (2, .int w), (3, .int (nI (l + 1)))]) rfl ?_
  have hn6 := rr_n6 h
  have hp36 := pq_6 hn6
  refine x_iload_n (pc := 0) C 2 dX12_makesSafe_0 rfl ?_
  refine x_aload_n (pc := 1) C 0 dX12_makesSafe_1 rfl ?_
  refine x_iload_n (pc := 2) C 1 dX12_makesSafe_2 rfl ?_
  refine x_callV (pc := 3) C E [.int kk] [.int w] (c_X12_safe t h (gn := 0) hg kk) m_X12_safe q35_2 xo_M rfl (by omega) (Nat.le_of_ble_eq_true rfl) dX12_makesSafe_3 rfl (k_I ?_)
  refine x_eq (show _ = vSafe (sV (σ)) kk from vSafeG_0 _ _) ?_
  refine x_iconst (pc := 6) (v := (-1)) C dX12_makesSafe_6 rfl ?_
  refine x_ixor (pc := 7) C dX12_makesSafe_7 ?_
  refine x_iand (pc := 8) C dX12_makesSafe_8 ?_
  refine x_eq (show w &&& ((vSafe (sV (σ)) kk) ^^^ (-1)) = ugX (sV σ) kk w from rfl) ?_
  refine x_if_ne (pc := 9) C 14 dX12_makesSafe_9 (by decide) (fun h9 => ?_) (fun h9 => ?_)
  · refine x_iload_n (pc := 14) C 3 dX12_makesSafe_14 rfl ?_
    refine x_if_ne_t (pc := 15) C 20 dX12_makesSafe_15 (by decide) (fun hh => by have := nI_toInt (n := l + 1) (by omega); rw [hh] at this; simp at this; omega) ?_
    refine x_aload_n (pc := 20) C 0 dX12_makesSafe_20 rfl ?_
    refine x_iload_n (pc := 21) C 3 dX12_makesSafe_21 rfl ?_
    refine x_callV (pc := 22) C E [.int (nI (l + 1))] [] (c_X12_keeps t _ (L := l + 1) (by omega)) m_X12_keeps q36_19 xo_M rfl (by omega) (Nat.le_of_ble_eq_true rfl) dX12_makesSafe_22 rfl (fun r M22 hc22 => ?_)
    obtain ⟨rfl, hK22⟩ := hc22
    have hR22 := rr_kp h hK22
    show XV κ (xP (wR t) M22) 25 _ []
    refine x_iconst (pc := 25) (v := 0) C dX12_makesSafe_25 rfl ?_
    refine x_istore (pc := 26) (L' := [(4, .int 0), (0, .ref (t.1 0)), (1, .int kk), (2, .int w), (3, .int (nI (l + 1)))]) C dX12_makesSafe_26 (by decide) rfl ?_
    refine x_iconst (pc := 28) (v := 0) C dX12_makesSafe_28 rfl ?_
    refine x_istore (pc := 29) (L' := [(5, .int 0), (4, .int 0), (0, .ref (t.1 0)), (1, .int kk), (2, .int w), (3, .int (nI (l + 1)))]) C dX12_makesSafe_29 (by decide) rfl ?_
    have loop31 : ∀ (k p : Nat) (y : Int32) (Mx : MM) , p + k = vN (sV σ) * vN (sV σ) → y = nI p → (RR σ Mx ∧ Mx 0 28 = 0 ∧ FrK (l + 1) M22 Mx) → anyN (fun p => mkP σ kk w l (sV σ) (p / vN (sV σ)) (p % vN (sV σ))) p = false → XV κ (xP (wR t) Mx) 31 [(5, .int y), (4, .int 0), (0, .ref (t.1 0)), (1, .int kk), (2, .int w), (3, .int (nI (l + 1)))] [] := by
      intro k
      induction k with
        | zero =>
          intro p y Mx  hcnt ey eMx hx
          subst ey
          obtain rfl : vN (sV σ) * vN (sV σ) = p := by omega
          refine x_iload (pc := 31) C 0 dX12_makesSafe_31 rfl ?_
          refine x_aload_n (pc := 33) C 2 dX12_makesSafe_33 rfl ?_
          refine g_M_many (pc := 34) C E q13_13 dX12_makesSafe_34 ?_
          refine x_eq (show Mx 0 12 = nI (vN (sV (σ))) from (rr_size eMx.1)) ?_
          refine x_aload_n (pc := 37) C 2 dX12_makesSafe_37 rfl ?_
          refine g_M_many (pc := 38) C E q13_13 dX12_makesSafe_38 ?_
          refine x_eq (show Mx 0 12 = nI (vN (sV (σ))) from (rr_size eMx.1)) ?_
          refine x_imul (pc := 41) C dX12_makesSafe_41 ?_
          refine x_eq (show (nI (vN (sV (σ)))) * (nI (vN (sV (σ)))) = nI ((vN (sV (σ))) * (vN (sV (σ)))) from pk_mul _ _) ?_
          refine x_icmp_ge_t (pc := 42) C 114 dX12_makesSafe_42 (by decide) (nI_le (by omega) (by omega)) ?_
          refine x_iload (pc := 114) C 1 dX12_makesSafe_114 rfl ?_
          exact x_bret (pc := 116) C X (b := false) rfl dX12_makesSafe_116 ⟨by rw [mkS_S h9, hx], eMx.1, eMx.2.1, kp_fr hK22 eMx.2.2⟩
        | succ k ih =>
          intro p y Mx  hcnt ey eMx hx
          subst ey
          have hi31 : p < vN (sV σ) * vN (sV σ) := by omega
          obtain ⟨hv0, hpa, hpb⟩ := pq_lt hi31
          refine x_iload (pc := 31) C 0 dX12_makesSafe_31 rfl ?_
          refine x_aload_n (pc := 33) C 2 dX12_makesSafe_33 rfl ?_
          refine g_M_many (pc := 34) C E q13_13 dX12_makesSafe_34 ?_
          refine x_eq (show Mx 0 12 = nI (vN (sV (σ))) from (rr_size eMx.1)) ?_
          refine x_aload_n (pc := 37) C 2 dX12_makesSafe_37 rfl ?_
          refine g_M_many (pc := 38) C E q13_13 dX12_makesSafe_38 ?_
          refine x_eq (show Mx 0 12 = nI (vN (sV (σ))) from (rr_size eMx.1)) ?_
          refine x_imul (pc := 41) C dX12_makesSafe_41 ?_
          refine x_eq (show (nI (vN (sV (σ)))) * (nI (vN (sV (σ)))) = nI ((vN (sV (σ))) * (vN (sV (σ)))) from pk_mul _ _) ?_
          refine x_icmp_ge_f (pc := 42) C 114 dX12_makesSafe_42 (by decide) (nI_ge (by omega) (by omega)) ?_
          refine x_iload (pc := 45) C 1 dX12_makesSafe_45 rfl ?_
          refine x_if_ne_f (pc := 47) C 114 dX12_makesSafe_47 (by decide) (by decide) ?_
          refine x_aload_n (pc := 50) C 2 dX12_makesSafe_50 rfl ?_
          refine x_iload (pc := 51) C 0 dX12_makesSafe_51 rfl ?_
          refine x_aload_n (pc := 53) C 2 dX12_makesSafe_53 rfl ?_
          refine g_M_many (pc := 54) C E q13_13 dX12_makesSafe_54 ?_
          refine x_eq (show Mx 0 12 = nI (vN (sV (σ))) from (rr_size eMx.1)) ?_
          refine x_idiv (pc := 57) C dX12_makesSafe_57 (fun hh => by have := nI_toInt (n := vN (sV σ)) (by omega); rw [hh] at this; simp at this; omega) ?_
          refine x_eq (show (nI p) / (nI (vN (sV (σ)))) = nI (p / vN (sV σ)) from (pk_div (by omega) hv0 (by omega))) ?_
          refine x_iload (pc := 58) C 0 dX12_makesSafe_58 rfl ?_
          refine x_aload_n (pc := 60) C 2 dX12_makesSafe_60 rfl ?_
          refine g_M_many (pc := 61) C E q13_13 dX12_makesSafe_61 ?_
          refine x_eq (show Mx 0 12 = nI (vN (sV (σ))) from (rr_size eMx.1)) ?_
          refine x_irem (pc := 64) C dX12_makesSafe_64 (fun hh => by have := nI_toInt (n := vN (sV σ)) (by omega); rw [hh] at this; simp at this; omega) ?_
          refine x_eq (show (nI p) - (nI p) / (nI (vN (sV (σ)))) * (nI (vN (sV (σ)))) = nI (p % vN (sV σ)) from (pk_rem (by omega) hv0 (by omega))) ?_
          refine x_callV (pc := 65) C E [.int (nI (p / vN (sV σ))), .int (nI (p % vN (sV σ)))] [] ( c_X12_canCopy t eMx.1 (a := p / vN (sV σ)) (b := p % vN (sV σ)) (by omega) (by omega)) m_X12_canCopy q30_20 xo_M rfl (by omega) (Nat.le_of_ble_eq_true rfl) dX12_makesSafe_65 rfl (k_I ?_)
          refine x_ifb_eq (pc := 68) C 108 dX12_makesSafe_68 (by decide) (fun h68 => ?_) (fun h68 => ?_)
          · refine x_iinc (pc := 108) (v := nI (p + 1)) (L' := [(5, .int (nI (p + 1))), (4, .int 0), (0, .ref (t.1 0)), (1, .int kk), (2, .int w), (3, .int (nI (l + 1)))]) C 0 dX12_makesSafe_108 rfl (nI_1 _) (by decide) rfl ?_
            refine x_goto (pc := 111) C 31 dX12_makesSafe_111 (by decide) ?_
            refine x_sub [0, 1, 2, 3, 4, 5] rfl ?_
            exact ih (p + 1) _ _ (by omega) rfl eMx (by rw [anyN, hx, show mkP σ kk w l (sV σ) (p / vN (sV σ)) (p % vN (sV σ)) = false from (by unfold mkP; rw [h68]; rfl)]; rfl)
          · refine x_aload_n (pc := 71) C 2 dX12_makesSafe_71 rfl ?_
            refine x_iload (pc := 72) C 0 dX12_makesSafe_72 rfl ?_
            refine x_aload_n (pc := 74) C 2 dX12_makesSafe_74 rfl ?_
            refine g_M_many (pc := 75) C E q13_13 dX12_makesSafe_75 ?_
            refine x_eq (show Mx 0 12 = nI (vN (sV (σ))) from (rr_size eMx.1)) ?_
            refine x_idiv (pc := 78) C dX12_makesSafe_78 (fun hh => by have := nI_toInt (n := vN (sV σ)) (by omega); rw [hh] at this; simp at this; omega) ?_
            refine x_eq (show (nI p) / (nI (vN (sV (σ)))) = nI (p / vN (sV σ)) from (pk_div (by omega) hv0 (by omega))) ?_
            refine x_iload (pc := 79) C 0 dX12_makesSafe_79 rfl ?_
            refine x_aload_n (pc := 81) C 2 dX12_makesSafe_81 rfl ?_
            refine g_M_many (pc := 82) C E q13_13 dX12_makesSafe_82 ?_
            refine x_eq (show Mx 0 12 = nI (vN (sV (σ))) from (rr_size eMx.1)) ?_
            refine x_irem (pc := 85) C dX12_makesSafe_85 (fun hh => by have := nI_toInt (n := vN (sV σ)) (by omega); rw [hh] at this; simp at this; omega) ?_
            refine x_eq (show (nI p) - (nI p) / (nI (vN (sV (σ)))) * (nI (vN (sV (σ)))) = nI (p % vN (sV σ)) from (pk_rem (by omega) hv0 (by omega))) ?_
            refine x_callV (pc := 86) C E [.int (nI (p / vN (sV σ))), .int (nI (p % vN (sV σ)))] [] (c_X12_copiesAll t eMx.1 (a := p / vN (sV σ)) (b := p % vN (sV σ)) (by omega) (by omega)) m_X12_copiesAll q31_0 xo_M rfl (by omega) (Nat.le_of_ble_eq_true rfl) dX12_makesSafe_86 rfl (fun r M86 hc86 => ?_)
            obtain ⟨rfl, hR86, hF86⟩ := hc86
            show XV κ (xP (wR t) M86) 89 _ [.int (nI (sCp (σ) (sV (σ)) (p / vN (sV σ)) (p % vN (sV σ))).2)]
            have hwn := (sCp_rest σ (sV σ) (p / vN (sV σ)) (p % vN (sV σ))).1
            refine x_if_le (pc := 89) C 108 dX12_makesSafe_89 (by decide) (fun h89 => ?_) (fun h89 => ?_)
            · refine x_iinc (pc := 108) (v := nI (p + 1)) (L' := [(5, .int (nI (p + 1))), (4, .int 0), (0, .ref (t.1 0)), (1, .int kk), (2, .int w), (3, .int (nI (l + 1)))]) C 0 dX12_makesSafe_108 rfl (nI_1 _) (by decide) rfl ?_
              refine x_goto (pc := 111) C 31 dX12_makesSafe_111 (by decide) ?_
              refine x_sub [0, 1, 2, 3, 4, 5] rfl ?_
              exact ih (p + 1) _ _ (by omega) rfl ⟨rr_cp0 hR86 h89, ((hF86 _ _ (by decide) (by decide) (by omega)).trans eMx.2.1), eMx.2.2.tr (FrK.c hF86)⟩ (by rw [anyN, hx, show mkP σ kk w l (sV σ) (p / vN (sV σ)) (p % vN (sV σ)) = false from (by unfold mkP; rw [decide_eq_false (show ¬ 0 < (sCp σ (sV σ) (p / vN (sV σ)) (p % vN (sV σ))).2 by have h0 := (sCp_le σ (sV σ) (p / vN (sV σ)) (p % vN (sV σ))); rw [i_le, nI_toInt (by omega), li_0] at h89; omega), Bool.and_false]; rfl)]; rfl)
            · refine x_aload_n (pc := 92) C 2 dX12_makesSafe_92 rfl ?_
              refine x_iload_n (pc := 93) C 3 dX12_makesSafe_93 rfl ?_
              refine x_iload_n (pc := 94) C 4 dX12_makesSafe_94 rfl ?_
              refine x_iload_n (pc := 95) C 5 dX12_makesSafe_95 rfl ?_
              refine x_iconst (pc := 96) (v := 1) C dX12_makesSafe_96 rfl ?_
              refine x_isub (pc := 97) C dX12_makesSafe_97 ?_
              refine x_eq (show (nI (l + 1)) - 1 = nI l from (pk_sub (b := 1) (by omega))) ?_
              refine x_callV (pc := 98) C E [.int kk, .int w, .int (nI l)] [] (hms hR86 ((hF86 _ _ (by decide) (by decide) (by omega)).trans eMx.2.1)) m_X12_makesSafe q38_0 xo_M rfl (by omega) (Nat.le_of_ble_eq_true rfl) dX12_makesSafe_98 rfl (fun r M98 hc98 => ?_)
              obtain ⟨rfl, hR98, hg98, hF98⟩ := hc98
              rw [show mkS (setV (σ) (sCp (σ) (sV (σ)) (p / vN (sV σ)) (p % vN (sV σ))).1) kk w l (sV (setV (σ) (sCp (σ) (sV (σ)) (p / vN (sV σ)) (p % vN (sV σ))).1)) = mkS σ kk w l (sCp σ (sV σ) (p / vN (sV σ)) (p % vN (sV σ))).1 from mkS_set σ _ kk w (sCp_R σ (sV σ) _ _) l _]
              show XV κ (xP (wR t) M98) 101 _ [.int (b2i (mkS σ kk w l (sCp σ (sV σ) (p / vN (sV σ)) (p % vN (sV σ))).1))]
              refine x_istore (pc := 101) (L' := [(4, .int (b2i (mkS σ kk w l (sCp σ (sV σ) (p / vN (sV σ)) (p % vN (sV σ))).1))), (5, .int (nI p)), (0, .ref (t.1 0)), (1, .int kk), (2, .int w), (3, .int (nI (l + 1)))]) C dX12_makesSafe_101 (by decide) rfl ?_
              cases hm : mkS σ kk w l (sCp σ (sV σ) (p / vN (sV σ)) (p % vN (sV σ))).1 with
              | false =>
                refine x_L (L' := [(4, .int 0), (5, .int (nI p)), (0, .ref (t.1 0)), (1, .int kk), (2, .int w), (3, .int (nI (l + 1)))]) rfl ?_
                refine x_aload_n (pc := 103) C 2 dX12_makesSafe_103 rfl ?_
                refine x_iload_n (pc := 104) C 5 dX12_makesSafe_104 rfl ?_
                refine x_callV (pc := 105) C E [.int (nI (l + 1))] [] (c_X12_laysBack t _ (L := l + 1) (by omega)) m_X12_laysBack q36_23 xo_M rfl (by omega) (Nat.le_of_ble_eq_true rfl) dX12_makesSafe_105 rfl (fun r M105 hc105 => ?_)
                obtain ⟨rfl, hL105⟩ := hc105
                obtain ⟨hB105, hZ105⟩ := rr_back h hK22 (eMx.2.2.tr ((FrK.c hF86).tr hF98)) hL105
                show XV κ (xP (wR t) M105) 108 _ []
                refine x_iinc (pc := 108) (v := nI (p + 1)) (L' := [(5, .int (nI (p + 1))), (4, .int 0), (0, .ref (t.1 0)), (1, .int kk), (2, .int w), (3, .int (nI (l + 1)))]) C 1 dX12_makesSafe_108 rfl (nI_1 _) (by decide) rfl ?_
                refine x_goto (pc := 111) C 31 dX12_makesSafe_111 (by decide) ?_
                refine x_sub [0, 1, 2, 3, 4, 5] rfl ?_
                exact ih (p + 1) _ _ (by omega) rfl ⟨hB105, ((hZ105 _ _ (by decide) (by decide) (by omega) (by omega)).trans hg), lb_fr (eMx.2.2.tr ((FrK.c hF86).tr hF98)) hL105⟩ (by rw [anyN, hx, show mkP σ kk w l (sV σ) (p / vN (sV σ)) (p % vN (sV σ)) = false from (by unfold mkP; rw [h68, decide_eq_true (show 0 < (sCp σ (sV σ) (p / vN (sV σ)) (p % vN (sV σ))).2 by have h0 := (sCp_le σ (sV σ) (p / vN (sV σ)) (p % vN (sV σ))); rw [i_le, nI_toInt (by omega), li_0] at h89; omega), hm]; rfl)]; rfl)
              | true =>
                refine x_L (L' := [(4, .int 1), (5, .int (nI p)), (0, .ref (t.1 0)), (1, .int kk), (2, .int w), (3, .int (nI (l + 1)))]) rfl ?_
                refine x_aload_n (pc := 103) C 2 dX12_makesSafe_103 rfl ?_
                refine x_iload_n (pc := 104) C 5 dX12_makesSafe_104 rfl ?_
                refine x_callV (pc := 105) C E [.int (nI (l + 1))] [] (c_X12_laysBack t _ (L := l + 1) (by omega)) m_X12_laysBack q36_23 xo_M rfl (by omega) (Nat.le_of_ble_eq_true rfl) dX12_makesSafe_105 rfl (fun r M105 hc105 => ?_)
                obtain ⟨rfl, hL105⟩ := hc105
                obtain ⟨hB105, hZ105⟩ := rr_back h hK22 (eMx.2.2.tr ((FrK.c hF86).tr hF98)) hL105
                show XV κ (xP (wR t) M105) 108 _ []
                refine x_iinc (pc := 108) (v := nI (p + 1)) (L' := [(5, .int (nI (p + 1))), (4, .int 1), (0, .ref (t.1 0)), (1, .int kk), (2, .int w), (3, .int (nI (l + 1)))]) C 1 dX12_makesSafe_108 rfl (nI_1 _) (by decide) rfl ?_
                refine x_goto (pc := 111) C 31 dX12_makesSafe_111 (by decide) ?_
                refine x_sub [0, 1, 2, 3, 4, 5] rfl ?_
                refine x_iload (pc := 31) C 0 dX12_makesSafe_31 rfl ?_
                refine x_aload_n (pc := 33) C 2 dX12_makesSafe_33 rfl ?_
                refine g_M_many (pc := 34) C E q13_13 dX12_makesSafe_34 ?_
                refine x_eq (show M105 0 12 = nI (vN (sV (σ))) from (rr_size hB105)) ?_
                refine x_aload_n (pc := 37) C 2 dX12_makesSafe_37 rfl ?_
                refine g_M_many (pc := 38) C E q13_13 dX12_makesSafe_38 ?_
                refine x_eq (show M105 0 12 = nI (vN (sV (σ))) from (rr_size hB105)) ?_
                refine x_imul (pc := 41) C dX12_makesSafe_41 ?_
                refine x_eq (show (nI (vN (sV (σ)))) * (nI (vN (sV (σ)))) = nI ((vN (sV (σ))) * (vN (sV (σ)))) from pk_mul _ _) ?_
                refine x_icmp_ge (pc := 42) C 114 dX12_makesSafe_42 (by decide) (fun h42 => ?_) (fun h42 => ?_)
                · refine x_iload (pc := 114) C 1 dX12_makesSafe_114 rfl ?_
                  exact x_bret (pc := 116) C X (b := true) rfl dX12_makesSafe_116 ⟨by rw [mkS_S h9, anyN_t (d := p) hi31 (show mkP σ kk w l (sV σ) (p / vN (sV σ)) (p % vN (sV σ)) = true from (by unfold mkP; rw [h68, decide_eq_true (show 0 < (sCp σ (sV σ) (p / vN (sV σ)) (p % vN (sV σ))).2 by have h0 := (sCp_le σ (sV σ) (p / vN (sV σ)) (p % vN (sV σ))); rw [i_le, nI_toInt (by omega), li_0] at h89; omega), hm]; rfl))], hB105, ((hZ105 _ _ (by decide) (by decide) (by omega) (by omega)).trans hg), hZ105⟩
                · refine x_iload (pc := 45) C 1 dX12_makesSafe_45 rfl ?_
                  refine x_if_ne_t (pc := 47) C 114 dX12_makesSafe_47 (by decide) (by decide) ?_
                  refine x_iload (pc := 114) C 1 dX12_makesSafe_114 rfl ?_
                  exact x_bret (pc := 116) C X (b := true) rfl dX12_makesSafe_116 ⟨by rw [mkS_S h9, anyN_t (d := p) hi31 (show mkP σ kk w l (sV σ) (p / vN (sV σ)) (p % vN (sV σ)) = true from (by unfold mkP; rw [h68, decide_eq_true (show 0 < (sCp σ (sV σ) (p / vN (sV σ)) (p % vN (sV σ))).2 by have h0 := (sCp_le σ (sV σ) (p / vN (sV σ)) (p % vN (sV σ))); rw [i_le, nI_toInt (by omega), li_0] at h89; omega), hm]; rfl))], hB105, ((hZ105 _ _ (by decide) (by decide) (by omega) (by omega)).trans hg), hZ105⟩
                
    refine x_sub [0, 1, 2, 3, 4, 5] rfl ?_
    exact loop31 (vN (sV σ) * vN (sV σ)) 0 _ M22 (by omega) rfl ⟨hR22, ((hK22.2 _ _ (by omega)).trans hg), FrK.rf⟩ rfl
  · refine x_iconst (pc := 12) (v := 1) C dX12_makesSafe_12 rfl ?_
    exact x_bret (pc := 13) C X (b := true) rfl dX12_makesSafe_13 ⟨by rw [mkS_t h9], h, hg, FrK.rf⟩

theorem c_ms (t : CT) (kk w : Int32) : ∀ (l : Nat), l ≤ 3 → ∀ {σ : SV} {M : MM} (h : RR σ M) (hg : M 0 28 = 0), XMet (wR t) yX12_makesSafe cX12_makesSafe 6 (some .boolean) (66 + l) [.ref (t.1 0), .int kk, .int w, .int (nI l)] M (fun r B => r = some (.int (b2i (mkS σ kk w l (sV σ)))) ∧ RR σ B ∧ B 0 28 = 0 ∧ FrK (l + 1) M B) := by
  intro l
  induction l with
  | zero => intro _ σ M h hg; exact c_X12_makesSafe0 t h hg kk w
  | succ l ih =>
    intro hl σ M h hg
    exact c_X12_makesSafeS t h hg kk w (by omega) (fun h hg => ih (by omega) h hg)
set_option maxRecDepth 100000 in
set_option maxHeartbeats 800000 in
theorem c_X12_fewest (t : CT) {σ : SV} {M : MM} (h : RR σ M) (hg : M 0 28 = 0) (x1 : Int32)  : XMet (wR t) yX12_fewest cX12_fewest 4 (some .int) 71 [.ref (t.1 0), .int x1] M (oQ (σ, a_fewest σ x1)) := by
  refine x_met RX12 (by decide) rfl (Nat.le_of_ble_eq_true rfl) (fun κ C X E => ?_)
  refine x_L (L' := [(0, .ref (t.1 0)), (1, .int x1)]) rfl ?_
  have hn6 := rr_n6 h
  have hN6 := h.1.1
  have hq := rr_q h
  have hB := h.1.2.1
  refine x_iload_n (pc := 0) C 1 dX12_fewest_0 rfl ?_
  refine x_i2l (pc := 1) C dX12_fewest_1 ?_
  refine x_lconst (pc := 2) (v := 1) C dX12_fewest_2 rfl ?_
  refine x_ldc2 (pc := 3) (v := 6) C q36_18 dX12_fewest_3 ?_
  refine x_callS (pc := 6) C E [.long (Int32.toInt64 x1), .long 1, .long 6] [] (c_X12_in t _ x1 (A := 1) (B := 6) (by decide) (by decide)) m_X12_in q13_6 rfl (by decide) (Nat.le_of_ble_eq_true rfl) dX12_fewest_6 rfl (k_I ?_)
  refine x_ifb_ne (pc := 9) C 15 dX12_fewest_9 (by decide) (fun h9 => ?_) (fun h9 => ?_)
  · refine x_aload_n (pc := 15) C 0 dX12_fewest_15 rfl ?_
    refine x_iconst (pc := 16) (v := 1) C dX12_fewest_16 rfl ?_
    refine x_callV (pc := 17) C E [.int 1] [] (c_X12_safe t h (gn := 0) hg 1) m_X12_safe q35_2 xo_M rfl (by first | decide | omega) (Nat.le_of_ble_eq_true rfl) dX12_fewest_17 rfl (k_I ?_)
    refine x_eq (show _ = vSafe (sV (σ)) 1 from vSafeG_0 _ _) ?_
    refine x_istore_n (pc := 20) (L' := [(2, .int (vSafe (sV (σ)) 1)), (0, .ref (t.1 0)), (1, .int x1)]) C dX12_fewest_20 (by decide) rfl ?_
    refine x_iconst (pc := 21) (v := (nI 0)) C dX12_fewest_21 (by decide) ?_
    refine x_istore_n (pc := 22) (L' := [(3, .int (nI 0)), (2, .int (vSafe (sV (σ)) 1)), (0, .ref (t.1 0)), (1, .int x1)]) C dX12_fewest_22 (by decide) rfl ?_
    have loop23 : ∀ (k n : Nat) (y : Int32) (Mx : MM) , n + k = 4 → y = nI n → (RR σ Mx ∧ Mx 0 28 = 0) → fwF σ x1 (vSafe (sV σ) 1) n k = a_fewest σ x1 → XV κ (xP (wR t) Mx) 23 [(3, .int y), (2, .int (vSafe (sV (σ)) 1)), (0, .ref (t.1 0)), (1, .int x1)] [] := by
      intro k
      induction k with
        | zero =>
          intro n y Mx  hcnt ey eMx hl
          subst ey
          obtain rfl : 4 = n := by omega
          refine x_iload_n (pc := 23) C 0 dX12_fewest_23 rfl ?_
          refine x_iconst (pc := 24) (v := (nI 4)) C dX12_fewest_24 (by decide) ?_
          refine x_icmp_ge_t (pc := 25) C 46 dX12_fewest_25 (by decide) (by decide) ?_
          refine x_iconst (pc := 46) (v := (-1)) C dX12_fewest_46 rfl ?_
          exact x_iret (pc := 47) C X dX12_fewest_47 (faq hl.symm eMx.1 eMx.2)
        | succ k ih =>
          intro n y Mx  hcnt ey eMx hl
          subst ey
          have hi23 : n < 4 := by omega
          refine x_iload_n (pc := 23) C 0 dX12_fewest_23 rfl ?_
          refine x_iconst (pc := 24) (v := (nI 4)) C dX12_fewest_24 (by decide) ?_
          refine x_icmp_ge_f (pc := 25) C 46 dX12_fewest_25 (by decide) (nI_ge (by omega) (by decide)) ?_
          refine x_aload_n (pc := 28) C 2 dX12_fewest_28 rfl ?_
          refine x_iload_n (pc := 29) C 3 dX12_fewest_29 rfl ?_
          refine x_iload_n (pc := 30) C 1 dX12_fewest_30 rfl ?_
          refine x_iload_n (pc := 31) C 0 dX12_fewest_31 rfl ?_
          refine x_callV (pc := 32) C E [.int x1, .int (vSafe (sV (σ)) 1), .int (nI n)] [] (c_ms t x1 (vSafe (sV σ) 1) n (by omega) eMx.1 eMx.2) m_X12_makesSafe q38_0 xo_M rfl (by omega) (Nat.le_of_ble_eq_true rfl) dX12_fewest_32 rfl (fun r M32 hc32 => ?_)
          obtain ⟨rfl, hR32, hg32, hF32⟩ := hc32
          show XV κ (xP (wR t) M32) 35 _ [.int (b2i (mkS σ x1 (vSafe (sV σ) 1) n (sV σ)))]
          refine x_ifb_eq (pc := 35) C 40 dX12_fewest_35 (by decide) (fun h35 => ?_) (fun h35 => ?_)
          · refine x_iinc (pc := 40) (v := nI (n + 1)) (L' := [(3, .int (nI (n + 1))), (2, .int (vSafe (sV (σ)) 1)), (0, .ref (t.1 0)), (1, .int x1)]) C 0 dX12_fewest_40 rfl (nI_1 _) (by decide) rfl ?_
            refine x_goto (pc := 43) C 23 dX12_fewest_43 (by decide) ?_
            refine x_sub [0, 1, 2, 3] rfl ?_
            exact ih (n + 1) _ _ (by omega) rfl ⟨hR32, hg32⟩ (by rw [← hl, fwF, if_neg (by rw [h35]; exact Bool.false_ne_true)])
          · refine x_iload_n (pc := 38) C 0 dX12_fewest_38 rfl ?_
            exact x_iret (pc := 39) C X dX12_fewest_39 (faq (hl.symm.trans (by rw [fwF, if_pos h35])) hR32 hg32)
    refine x_sub [0, 1, 2, 3] rfl ?_
    exact loop23 4 0 _ M (by omega) rfl ⟨h, hg⟩ (by unfold a_fewest; rw [if_neg (fun hh => hh (of_decide_eq_true h9))])
  · refine x_bipush (pc := 12) (v := (-2)) C dX12_fewest_12 rfl ?_
    exact x_iret (pc := 14) C X dX12_fewest_14 (faq (by
          unfold a_fewest
          repeat (first | with_reducible rfl | (refine (if_pos ?_).trans ?_; ((try simp only [inB_t, inB_f, i_lt, i_le, i_eq, ne_eq, Bool.not_eq_true, Bool.not_eq_false, hpB, decide_eq_true_eq, decide_eq_false_iff_not, li_0, li_1, li_2, li_3, li_4, li_5, li_6, li_7, li_8, li_9, li_10, li_20, li_40, li_99, li_100, li_255, li_899, li_999, li_m1, li_m2, li_m3, li_m4, li_m11, li_m12, li_m13, li_m14, li_m100] at h9 ⊢) <;> omega)) | (refine (if_neg ?_).trans ?_; ((try simp only [inB_t, inB_f, i_lt, i_le, i_eq, ne_eq, Bool.not_eq_true, Bool.not_eq_false, hpB, decide_eq_true_eq, decide_eq_false_iff_not, li_0, li_1, li_2, li_3, li_4, li_5, li_6, li_7, li_8, li_9, li_10, li_20, li_40, li_99, li_100, li_255, li_899, li_999, li_m1, li_m2, li_m3, li_m4, li_m11, li_m12, li_m13, li_m14, li_m100] at h9 ⊢) <;> omega)) | fail)
          all_goals (first | with_reducible rfl | (exfalso; ((try simp only [inB_t, inB_f, i_lt, i_le, i_eq, ne_eq, Bool.not_eq_true, Bool.not_eq_false, hpB, decide_eq_true_eq, decide_eq_false_iff_not, li_0, li_1, li_2, li_3, li_4, li_5, li_6, li_7, li_8, li_9, li_10, li_20, li_40, li_99, li_100, li_255, li_899, li_999, li_m1, li_m2, li_m3, li_m4, li_m11, li_m12, li_m13, li_m14, li_m100] at h9 ⊢) <;> omega)))) h hg)

