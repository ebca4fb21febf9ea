/-! text: a rule that was read is what the text says -/
theorem zrun_zl {S nm : Nat → Int32} {f : Nat} {l : List Int32} {z : Nat × (Nat → Int32)} (h : ∀ i, i < l.length → S (f + i) = l.getD i 0) : ∀ k, k ≤ l.length → zrun S nm f k z = zl nm z (l.take k) := by
  intro k
  induction k with
  | zero => intro _; rfl
  | succ k ih =>
    intro hk
    have e : l.take (k + 1) = l.take k ++ [l.getD k 0] := by
      rw [List.take_succ, List.getD_eq_getElem?_getD, List.getElem?_eq_getElem (by omega)]
      rfl
    rw [zrun_S, ih (by omega), h k (by omega), e, zl_app, zl_1]
theorem zrun_cg {S S' nm : Nat → Int32} {f n : Nat} {z : Nat × (Nat → Int32)} (h : ∀ i, i < n → S' (f + i) = S (f + i)) : zrun S' nm f n z = zrun S nm f n z := by
  induction n with
  | zero => rfl
  | succ n ih => rw [zrun_S, zrun_S, ih (fun i hi => h i (by omega)), h n (by omega)]
theorem pSt_pre {Y : Nat → Int32} {n : Nat} (p : Nat) : ∀ k, ∃ l, pSt Y n (p + k) = pSt Y n p ++ l := by
  intro k
  induction k with
  | zero => exact ⟨[], (List.append_nil _).symm⟩
  | succ k ih =>
    obtain ⟨l, hl⟩ := ih
    exact ⟨l ++ (pPt Y n (p + k) (pX Y n (p + k))).2.2.1, by show pSt Y n (p + k) ++ _ = _; rw [hl, List.append_assoc]; rfl⟩
theorem pRd_ok {Y : Nat → Int32} {n : Nat} (hn : n ≤ 160) : ∀ k p, p + k = 3 → pRd Y n p k = -1 → ∀ j, p ≤ j → j < 3 → (pPt Y n j (pX Y n j)).1 = true := by
  intro k
  induction k with
  | zero => intro p hp _ j h1 h2; omega
  | succ k ih =>
    intro p hp h j h1 h2
    rw [pRd] at h
    split at h
    · rename_i ht
      by_cases g : j = p
      · rw [g]; exact ht
      · exact ih (p + 1) (by omega) h j (by omega) h2
    · have h3 := (tkP_le (Y := Y) (pX_le (Y := Y) (n := n) (p + 1) (by omega))).2
      exact absurd h (nI_nm1 (by omega))
theorem pSt_len {Y : Nat → Int32} {n : Nat} (hok : ∀ j, j < 3 → (pPt Y n j (pX Y n j)).1 = true) : ∀ p, p ≤ 3 → (pSt Y n p).length ≤ pX Y n p := by
  intro p
  induction p with
  | zero => intro _; exact Nat.le_refl _
  | succ p ih =>
    intro hp
    have h1 := ih (by omega)
    have h2 := ((PG_Pt (Y := Y) (pX_le (n := n) p (by omega)) (show p < 3 by omega)).2 (hok p (by omega))).1
    show (pSt Y n p ++ (pPt Y n p (pX Y n p)).2.2.1).length ≤ (pPt Y n p (pX Y n p)).2.1
    rw [List.length_append]
    omega
/-- what the parts of a text say -/
def pTx (Y : Nat → Int32) (n p : Nat) (nm : Nat → Int32) : Int32 := (pPt Y n p (pX Y n p)).2.2.2 nm
theorem rulC_read {Y : Nat → Int32} {n : Nat} {M : MM} (hn : n ≤ 160) (hR : pRd Y n 0 3 = -1) (hS : Sl (pSt Y n 3) M) (hE : ∀ k, k < 3 → M (21 + 5 * 6) k = nI (pSt Y n (k + 1)).length) : RulC M 6 (pTx Y n) := by
  have hok := fun j hj => pRd_ok (Y := Y) hn 3 0 rfl hR j (Nat.zero_le _) hj
  have hlen := pSt_len hok
  refine ⟨fun k => (pSt Y n (k + 1)).length, hE, fun k hk => ?_, fun p hp nm s0 => ?_⟩
  · have h1 := hlen (k + 1) (by omega)
    have h2 := pX_le (Y := Y) (n := n) (k + 1) (by omega)
    show (pSt Y n (k + 1)).length ≤ 160
    omega
  · have e1 : evF (fun k => (pSt Y n (k + 1)).length) p = (pSt Y n p).length := by
      unfold evF
      by_cases g : p = 0
      · subst g; rfl
      · rw [if_neg g]
        show (pSt Y n (p - 1 + 1)).length = _
        rw [show p - 1 + 1 = p by omega]
    have e2 : (pSt Y n (p + 1)).length = (pSt Y n p).length + (pPt Y n p (pX Y n p)).2.2.1.length := by
      show (pSt Y n p ++ _).length = _
      rw [List.length_append]
    rw [e1]
    show evJ _ nm s0 _ ((pSt Y n (p + 1)).length - (pSt Y n p).length) = _
    rw [e2, Nat.add_sub_cancel_left]
    have hs : ∀ i, i < (pPt Y n p (pX Y n p)).2.2.1.length → M (20 + 5 * 6) ((pSt Y n p).length + i) = (pPt Y n p (pX Y n p)).2.2.1.getD i 0 := by
      intro i hi
      obtain ⟨l, hl⟩ := pSt_pre (Y := Y) (n := n) (p + 1) (2 - p)
      rw [show p + 1 + (2 - p) = 3 by omega] at hl
      have hl2 : pSt Y n 3 = pSt Y n p ++ ((pPt Y n p (pX Y n p)).2.2.1 ++ l) := by
        rw [hl]
        show pSt Y n p ++ _ ++ l = _
        rw [List.append_assoc]
      rw [hS.2 _ (by rw [hl2, List.length_append, List.length_append]; omega), hl2, List.getD_eq_getElem?_getD, List.getElem?_append_right (by omega), Nat.add_sub_cancel_left, List.getElem?_append_left hi, ← List.getD_eq_getElem?_getD]
    obtain ⟨st', q1, q2, q3⟩ := ((PG_Pt (Y := Y) (pX_le (n := n) p (by omega)) hp).2 (hok p hp)).2.2 nm 0 s0 (by decide)
    unfold evJ
    rw [zrun_zl hs _ (Nat.le_refl _), List.take_length, q1]
    show (if 0 < 0 + 1 then st' (0 + 1 - 1) else 0) = _
    rw [if_pos (by decide)]
    exact q2
theorem rulC_bec {M : MM} {q : Nat} {T : Nat → (Nat → Int32) → Int32} (h : RulC M 6 T) (hq : q < 6) : RulC (rBec M q 6) q T := by
  obtain ⟨e, a, b, c⟩ := h
  refine ⟨e, fun k hk => ?_, b, fun p hp nm s0 => ?_⟩
  · unfold rBec
    rw [if_neg (by omega), if_neg (by omega), if_pos ⟨rfl, hk⟩]
    exact a k hk
  · have he := b p hp
    rw [← c p hp nm s0]
    unfold evJ
    rw [zrun_cg (S := M (20 + 5 * 6)) (fun i hi => ?_)]
    have hev : evF e p + i < 160 := by
      unfold evF at hi ⊢
      by_cases g : p = 0
      · rw [if_pos g] at hi ⊢; omega
      · rw [if_neg g] at hi ⊢; omega
    unfold rBec
    rw [if_neg (by omega), if_pos ⟨rfl, hev⟩]
theorem rBec_o (M : MM) (q q2 : Nat) {a b : Nat} (h : a < 19 + 5 * q ∨ 21 + 5 * q < a) : rBec M q q2 a b = M a b := by
  unfold rBec
  rw [if_neg (by omega), if_neg (by omega), if_neg (by omega)]
def addT (σ : SV) : SV := (sV σ, (sN σ + 1, fun q p nm => if q = sN σ then pTx (sY σ) (sB σ) p nm else sT σ q p nm), sK σ, (0, sY σ), sH σ)
def o_text (σ : SV) : SV × Int32 :=
  if sN σ = 6 then (σ, -4)
  else if pRd (sY σ) (sB σ) 0 3 = -1 then (addT σ, nI (sN σ))
  else (setB σ 0 (sY σ), -100 - pRd (sY σ) (sB σ) 0 3)
theorem rc_TY {σ : SV} {M : MM} (h : RC σ M) : TY (sY σ) (sB σ) M := ⟨h.1.2.1, h.2.2.2.2.2.2.1⟩
theorem rc_Tg {σ : SV} {M M' : MM} (h : RC σ M) (hT : Tg M M') : RC σ M' := rc_frame h (fun a b hr => hT a b (by unfold rel at hr; omega) (by unfold rel at hr; omega) (by unfold rel at hr; omega) (by unfold rel at hr; omega))
theorem rc_text {σ : SV} {M : MM} (h : RC (setB σ 0 (sY σ)) M) (hn : sN σ < 6) (hR : RulC M 6 (pTx (sY σ) (sB σ))) : RC (addT σ) (mu (rBec M (sN σ) 6) 0 8 (nI (sN σ + 1))) := by
  obtain ⟨⟨a1, a2, a3, a4, a5⟩, b, c, d, e, f, g, k, l⟩ := h
  have hM : ∀ a b, a ≠ 0 → (a < 19 + 5 * sN σ ∨ 21 + 5 * sN σ < a) → mu (rBec M (sN σ) 6) 0 8 (nI (sN σ + 1)) a b = M a b := fun a b h0 h1 => by rw [mu_n _ _ _ _ h0, rBec_o _ _ _ h1]
  refine ⟨⟨by show sN σ + 1 ≤ 6; omega, by show 0 ≤ 160; omega, ⟨a3.1, Nat.lt_succ_of_lt a3.2.1, a3.2.2⟩, fun u hu => ⟨⟨(a4 u hu).1.1, Nat.lt_succ_of_lt (a4 u hu).1.2.1, (a4 u hu).1.2.2⟩, (a4 u hu).2⟩, a5⟩, vc_frame b (fun x y hxy => hM x y (by omega) (by omega)), mu_s _ _ _ _, ?_, fun u hu => vc_frame (e u hu) (fun x y hxy => hM x y (by omega) (by omega)), fun q hq => ?_, ⟨(hM _ _ (by decide) (by omega)).trans g.1, fun k hk => absurd hk (Nat.not_lt_zero _)⟩, fun s hs => ?_, fun j hj => ?_⟩
  · rw [mu_k _ _ _ _ (by decide), rBec_o _ _ _ (by omega)]; exact d
  · by_cases g2 : q = sN σ
    · subst g2
      refine rulC_congr (M := rBec M (sN σ) 6) ?_ (fun y => by rw [mu_n _ _ _ _ (by omega)]) (fun y => by rw [mu_n _ _ _ _ (by omega)])
      have := rulC_bec hR hn
      show RulC _ _ (fun p nm => if sN σ = sN σ then pTx (sY σ) (sB σ) p nm else sT σ (sN σ) p nm)
      rw [show (fun p nm => if sN σ = sN σ then pTx (sY σ) (sB σ) p nm else sT σ (sN σ) p nm) = pTx (sY σ) (sB σ) from funext fun p => funext fun nm => if_pos rfl]
      exact this
    · have hq2 : q < sN σ := Nat.lt_of_le_of_ne (Nat.le_of_lt_succ hq) g2
      have := rulC_congr (M' := mu (rBec M (sN σ) 6) 0 8 (nI (sN σ + 1))) (f q hq2) (fun y => hM _ y (by omega) (by omega)) (fun y => hM _ y (by omega) (by omega))
      show RulC _ _ (fun p nm => if q = sN σ then pTx (sY σ) (sB σ) p nm else sT σ q p nm)
      rw [show (fun p nm => if q = sN σ then pTx (sY σ) (sB σ) p nm else sT σ q p nm) = sT σ q from funext fun p => funext fun nm => if_neg g2]
      exact this
  · exact shC_congr (k s hs) (fun y => hM _ y (by omega) (by omega)) (fun y => hM _ y (by omega) (by omega))
  · rw [hM _ _ (by omega) (by omega)]
    exact l j hj
set_option maxRecDepth 100000 in
set_option maxHeartbeats 800000 in
theorem c_X9_clear2 (t : CT) (M : MM) : XMet (wC t) yX9_clear cX9_clear 1 none 1 [.ref (t.1 5)] M (rU (mu M 5 2 0)) := by
  refine x_met RX9 (by decide) rfl (Nat.le_of_ble_eq_true rfl) (fun κ C X E => ?_)
  refine x_L (L' := [(0, .ref (t.1 5))]) rfl ?_
  refine x_aload_n (pc := 0) C 0 dX9_clear_0 rfl ?_
  refine x_iconst (pc := 1) (v := 0) C dX9_clear_1 rfl ?_
  refine p_Tape_size (pc := 2) C E q7_23 dX9_clear_2 ?_
  exact x_vret (pc := 5) C X dX9_clear_5 ⟨rfl, rfl⟩

set_option maxRecDepth 100000 in
set_option maxHeartbeats 800000 in
theorem c_X11_text (t : CT) {σ : SV} {M : MM} (h : RC σ M) {v : Value} {q a : Nat} (hX : ∀ U H, t.2.2.2 U H → txW v q a U H) (hv : v = .null ∨ ∃ z, v = .ref z) : XMet (wC t) yX11_text cX11_text 2 (some .int) 71 [.ref (t.1 0)] M (oR (o_text σ)) := by
  refine x_met RX11 (by decide) rfl (Nat.le_of_ble_eq_true rfl) (fun κ C X E => ?_)
  refine x_L (L' := [(0, .ref (t.1 0))]) rfl ?_
  have hn6 := rc_n6 h
  have hq6 := rc_q6 h
  have hq := rc_q h
  have hN6 := h.1.1
  have hB := h.1.2.1
  refine x_aload_n (pc := 0) C 0 dX11_text_0 rfl ?_
  refine g_main_textCount (pc := 1) C E q2_6 dX11_text_1 ?_
  refine x_eq (show M 0 8 = nI (sN σ) from rc_tc h) ?_
  refine x_bipush (pc := 4) (v := (nI 6)) C dX11_text_4 (by decide) ?_
  refine x_icmp_lt (pc := 6) C 12 dX11_text_6 (by decide) (fun h6 => ?_) (fun h6 => ?_)
  · have hn : sN σ < 6 := (nI_ltI (by omega) (by decide)).mp h6
    refine x_aload_n (pc := 12) C 0 dX11_text_12 rfl ?_
    refine g_main_tape (pc := 13) C E q1_21 dX11_text_13 ?_
    refine x_callV (pc := 16) C E [] [] (c_X9_read t hX hv M (rc_TY h)) m_X9_read q8_0 xo_Tape rfl (by decide) (Nat.le_of_ble_eq_true rfl) dX11_text_16 rfl (fun r M16 hc16 => ?_)
    obtain ⟨rfl, hT16, hG16, hF16⟩ := hc16
    have hR16 := rc_Tg h hF16
    show XV κ (xP (wC t) M16) 19 _ [.int (pRd (sY σ) (sB σ) 0 3)]
    refine x_istore_n (pc := 19) (L' := [(1, .int (pRd (sY σ) (sB σ) 0 3)), (0, .ref (t.1 0))]) C dX11_text_19 (by decide) rfl ?_
    refine x_aload_n (pc := 20) C 1 dX11_text_20 rfl ?_
    refine g_main_tape (pc := 21) C E q1_21 dX11_text_21 ?_
    refine x_callV (pc := 24) C E [] [] (c_X9_clear2 t _) m_X9_clear q10_20 xo_Tape rfl (by decide) (Nat.le_of_ble_eq_true rfl) dX11_text_24 rfl (k_U ?_)
    have hRc := rc_nob hR16
    refine x_iload_n (pc := 27) C 0 dX11_text_27 rfl ?_
    refine x_iconst (pc := 28) (v := (-1)) C dX11_text_28 rfl ?_
    refine x_icmp_eq (pc := 29) C 37 dX11_text_29 (by decide) (fun h29 => ?_) (fun h29 => ?_)
    · have hpr := h29
      refine x_aload_n (pc := 37) C 1 dX11_text_37 rfl ?_
      refine g_main_texts (pc := 38) C E q1_15 dX11_text_38 ?_
      refine x_aload_n (pc := 41) C 1 dX11_text_41 rfl ?_
      refine g_main_textCount (pc := 42) C E q2_6 dX11_text_42 ?_
      refine x_eq (show (mu M16 5 2 0) 0 8 = nI (sN σ) from rc_tc (σ := setB σ 0 (sY σ)) hRc) ?_
      refine l_texts (pc := 45) C E (by omega) dX11_text_45 ?_
      refine x_aload_n (pc := 46) C 1 dX11_text_46 rfl ?_
      refine g_main_tape (pc := 47) C E q1_21 dX11_text_47 ?_
      refine g_Tape_rule (pc := 50) C E q3_7 dX11_text_50 ?_
      refine x_callV (pc := 53) C E [.ref (t.1 (19 + 5 * 6))] [] (c_X6_become t _ (q := sN σ) (by omega) (q2 := 6) (by decide)) m_X6_become q11_0 (xo_Rule (q := sN σ) (by omega)) rfl (by decide) (Nat.le_of_ble_eq_true rfl) dX11_text_53 rfl (k_U ?_)
      refine x_aload_n (pc := 56) C 1 dX11_text_56 rfl ?_
      refine x_dup (pc := 57) C dX11_text_57 rfl ?_
      refine g_main_textCount (pc := 58) C E q2_6 dX11_text_58 ?_
      refine x_eq (show (rBec (mu M16 5 2 0) (sN σ) 6) 0 8 = nI (sN σ) from (by rw [rBec_o _ _ _ (by omega)]; exact rc_tc (σ := setB σ 0 (sY σ)) hRc)) ?_
      refine x_iconst (pc := 61) (v := 1) C dX11_text_61 rfl ?_
      refine x_iadd (pc := 62) C dX11_text_62 ?_
      refine x_eq (show (nI (sN σ)) + 1 = nI (sN σ + 1) from nI_1 _) ?_
      refine p_main_textCount (pc := 63) C E q2_6 dX11_text_63 ?_
      have hfin := rc_text hRc hn (rulC_congr (rulC_read h.1.2.1 hpr (hG16 hpr).1 (hG16 hpr).2) (fun y => congrFun (mu_n _ _ _ _ (by decide)) y) (fun y => congrFun (mu_n _ _ _ _ (by decide)) y))
      refine x_aload_n (pc := 66) C 1 dX11_text_66 rfl ?_
      refine g_main_textCount (pc := 67) C E q2_6 dX11_text_67 ?_
      refine x_eq (show (mu (rBec (mu M16 5 2 0) (sN σ) 6) 0 8 (nI (sN σ + 1))) 0 8 = nI (sN σ + 1) from (mu_s _ _ _ _)) ?_
      refine x_iconst (pc := 70) (v := 1) C dX11_text_70 rfl ?_
      refine x_isub (pc := 71) C dX11_text_71 ?_
      refine x_eq (show (nI (sN σ + 1)) - 1 = nI (sN σ) from nI_pred _) ?_
      exact x_iret (pc := 72) C X dX11_text_72 (fin (by unfold o_text; rw [if_neg (by omega), if_pos hpr]) hfin)
    · have hpr := h29
      refine x_bipush (pc := 32) (v := (-100)) C dX11_text_32 rfl ?_
      refine x_iload_n (pc := 34) C 0 dX11_text_34 rfl ?_
      refine x_isub (pc := 35) C dX11_text_35 ?_
      exact x_iret (pc := 36) C X dX11_text_36 (fin (by unfold o_text; rw [if_neg (by omega), if_neg hpr]) hRc)
  · have hn : ¬ sN σ < 6 := fun g => h6 (nI_lt g (by decide))
    refine x_bipush (pc := 9) (v := (-4)) C dX11_text_9 rfl ?_
    exact x_iret (pc := 11) C X dX11_text_11 (fin (by unfold o_text; rw [if_pos (by omega)]) h)

