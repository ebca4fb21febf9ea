set_option maxRecDepth 100000 in
theorem c_lev_all (t : CT) {v : Value} {q a : Nat} (hX : ∀ U H, t.2.2.2 U H → txW v q a U H) (hv : v = .null ∨ ∃ z, v = .ref z) {Y : Nat → Int32} {n : Nat} {g : Nat} (hg : g ≤ 5) {g0 : Bool} (h0 : g0 = decide (g = 0)) {sub : Nat → Nat → PR} (hO : g0 = false → (∀ (M : MM) (z : List Int32) (x : Nat), TY Y n M → Tk Y n x M → Sl z M → z.length ≤ x → x ≤ n → XMet (wC t) yX9_readOne cX9_readOne 4 (some .boolean) (10 + 10 * (g - 1)) [.ref (t.1 5), .int (nI (5 - (g - 1)))] M (PMf Y n z (sub 0 x) M))) (hL5 : g0 = false → (∀ (M : MM) (z : List Int32) (x : Nat), TY Y n M → Tk Y n x M → Sl z M → z.length ≤ x → x ≤ n → XMet (wC t) yX9_readLevel cX9_readLevel 7 (some .boolean) (16 + 10 * (g - 1)) [.ref (t.1 5), .int (nI (0)), .int (nI (5 - (g - 1)))] M (PMf Y n z (sub 5 x) M))) (hL3 : g0 = false → (∀ (M : MM) (z : List Int32) (x : Nat), TY Y n M → Tk Y n x M → Sl z M → z.length ≤ x → x ≤ n → XMet (wC t) yX9_readLevel cX9_readLevel 7 (some .boolean) (14 + 10 * (g - 1)) [.ref (t.1 5), .int (nI (2)), .int (nI (5 - (g - 1)))] M (PMf Y n z (sub 3 x) M))) (hPG : g0 = false → ∀ y, y ≤ n → ∃ N, PG n N y (sub 0 y) ∧ PG n N y (sub 5 y) ∧ PG n N y (sub 3 y)) (hPGm : ∀ m y, y ≤ n → PG n (1 + 5 * g + m) y (lev Y n g0 sub m y)) : (∀ (M : MM) (z : List Int32) (x : Nat), TY Y n M → Tk Y n x M → Sl z M → z.length ≤ x → x ≤ n → XMet (wC t) yX9_readOne cX9_readOne 4 (some .boolean) (10 + 10 * g) [.ref (t.1 5), .int (nI (5 - g))] M (PMf Y n z (pOne Y n g0 sub x) M)) ∧ ∀ m, m ≤ 5 → (∀ (M : MM) (z : List Int32) (x : Nat), TY Y n M → Tk Y n x M → Sl z M → z.length ≤ x → x ≤ n → XMet (wC t) yX9_readLevel cX9_readLevel 7 (some .boolean) (11 + 10 * g + m) [.ref (t.1 5), .int (nI (5 - m)), .int (nI (5 - g))] M (PMf Y n z (lev Y n g0 sub m x) M)) := by
  have hOne : (∀ (M : MM) (z : List Int32) (x : Nat), TY Y n M → Tk Y n x M → Sl z M → z.length ≤ x → x ≤ n → XMet (wC t) yX9_readOne cX9_readOne 4 (some .boolean) (10 + 10 * g) [.ref (t.1 5), .int (nI (5 - g))] M (PMf Y n z (pOne Y n g0 sub x) M)) := fun M z x hT hTk hS hzx hxn => c_X9_readOne t hX hv hg h0 hO hL5 hPG M z x hT hTk hS hzx hxn
  have hDen : (∀ (M : MM) (z : List Int32) (x : Nat), TY Y n M → Tk Y n x M → Sl z M → z.length ≤ x → x ≤ n → tkK Y n x = 9 → XMet (wC t) yX9_readDenied cX9_readDenied 3 (some .boolean) (10 + 10 * g) [.ref (t.1 5), .int (nI (5 - g))] M (PMf Y n z ((if g0 = true then pzF x else pDen (sub 3 (tkE Y n x)))) M)) := fun M z x hT hTk hS hzx hxn h9 => c_X9_readDenied t hX hv hg h0 hL3 hPG M z x hT hTk hS hzx hxn h9
  refine ⟨hOne, fun m => ?_⟩
  induction m with
  | zero => intro _ M z x hT hTk hS hzx hxn; exact c_X9_readLevel0 t hX hv hg h0 hOne M z x hT hTk hS hzx hxn
  | succ m ih =>
    intro hm M z x hT hTk hS hzx hxn
    rw [show 11 + 10 * g + (m + 1) = 12 + 10 * g + m by omega, show 5 - (m + 1) = 4 - m by omega]
    exact c_X9_readLevelS t hX hv hg (by omega) (ih (by omega)) (fun _ => hDen) (hPGm m) M z x hT hTk hS hzx hxn
theorem c_Lv (t : CT) {v : Value} {q a : Nat} (hX : ∀ U H, t.2.2.2 U H → txW v q a U H) (hv : v = .null ∨ ∃ z, v = .ref z) {Y : Nat → Int32} {n : Nat} : ∀ g, g ≤ 5 → (∀ (M : MM) (z : List Int32) (x : Nat), TY Y n M → Tk Y n x M → Sl z M → z.length ≤ x → x ≤ n → XMet (wC t) yX9_readOne cX9_readOne 4 (some .boolean) (10 + 10 * g) [.ref (t.1 5), .int (nI (5 - g))] M (PMf Y n z (pLv Y n g 0 x) M)) ∧ ∀ m, m ≤ 5 → (∀ (M : MM) (z : List Int32) (x : Nat), TY Y n M → Tk Y n x M → Sl z M → z.length ≤ x → x ≤ n → XMet (wC t) yX9_readLevel cX9_readLevel 7 (some .boolean) (11 + 10 * g + m) [.ref (t.1 5), .int (nI (5 - m)), .int (nI (5 - g))] M (PMf Y n z (pLv Y n g m x) M)) := by
  intro g
  induction g with
  | zero =>
    intro hg
    exact c_lev_all t hX hv hg (g0 := true) rfl (sub := fun _ _ => pzF 0) (fun h => by cases h) (fun h => by cases h) (fun h => by cases h) (fun h => by cases h) (fun m y hy => PG_Lv 0 m y hy)
  | succ g ih =>
    intro hg
    obtain ⟨i1, i2⟩ := ih (by omega)
    refine c_lev_all t hX hv hg (g0 := false) rfl (sub := pLv Y n g) (fun _ => i1) (fun _ => ?_) (fun _ => ?_) (fun _ y hy => ⟨1 + 5 * g + 5, ?_, PG_Lv g 5 y hy, ?_⟩) (fun m y hy => PG_Lv (g + 1) m y hy)
    · have := i2 5 (by decide)
      rw [show 11 + 10 * g + 5 = 16 + 10 * g by omega] at this
      exact this
    · have := i2 3 (by decide)
      rw [show 11 + 10 * g + 3 = 14 + 10 * g by omega] at this
      exact this
    · have h0 := PG_Lv (Y := Y) g 0 y hy
      exact ⟨h0.1, fun h => ⟨(h0.2 h).1, (h0.2 h).2.1, PE_up (h0.2 h).2.2 (by omega)⟩⟩
    · have h0 := PG_Lv (Y := Y) g 3 y hy
      exact ⟨h0.1, fun h => ⟨(h0.2 h).1, (h0.2 h).2.1, PE_up (h0.2 h).2.2 (by omega)⟩⟩
/-! a whole text -/
def Tg (A B : MM) : Prop := ∀ a b, (a = 5 → b < 3 ∨ 6 < b) → (a = 49 → b ≠ 4) → a ≠ 50 → a ≠ 51 → B a b = A a b
theorem Tg.rf {A : MM} : Tg A A := fun _ _ _ _ _ _ => rfl
theorem Tg.tr {A B D : MM} (h1 : Tg A B) (h2 : Tg B D) : Tg A D := fun a b x y z w => (h2 a b x y z w).trans (h1 a b x y z w)
theorem Tg.f {A B : MM} (h : Tf A B) : Tg A B := fun a b x y z _ => h a b x y z
def RdI (Y : Nat → Int32) (n p : Nat) (A B : MM) : Prop := TY Y n B ∧ Tk Y n (pX Y n p) B ∧ Sl (pSt Y n p) B ∧ (∀ k, k < p → B (21 + 5 * 6) k = nI (pSt Y n (k + 1)).length) ∧ Tg A B
def RdO (Y : Nat → Int32) (n : Nat) (A : MM) : XF := fun r B => r = some (.int (pRd Y n 0 3)) ∧ TY Y n B ∧ (pRd Y n 0 3 = -1 → Sl (pSt Y n 3) B ∧ ∀ k, k < 3 → B (21 + 5 * 6) k = nI (pSt Y n (k + 1)).length) ∧ Tg A B
theorem pPt_n {Y : Nat → Int32} {n p x : Nat} (h : ¬ tkK Y n x = nI (4 + p)) : pPt Y n p x = pzF x := by
  unfold pPt
  rw [if_neg h]
theorem pPt_y {Y : Nat → Int32} {n p x : Nat} (h : tkK Y n x = nI (4 + p)) : pPt Y n p x = pCl Y n 59 (pLv Y n 5 5 (tkE Y n x)) := by
  unfold pPt
  rw [if_pos h]
theorem nI_nm1 {k : Nat} (h : k ≤ 160) : nI k ≠ -1 := fun e => by
  have h2 := nI_toInt (n := k) (by omega)
  rw [e] at h2
  have h3 : (-1 : Int32).toInt = -1 := rfl
  omega
theorem rd_bad {Y : Nat → Int32} {n x : Nat} {A B : MM} {v : Int32} (hT : TY Y n B) (hx : x ≤ n) (hv : v = nI (tkP Y n x)) (hR : pRd Y n 0 3 = nI (tkP Y n x)) (hf : Tg A B) : RdO Y n A (some (.int v)) B := by
  have h1 := (tkP_le (Y := Y) hx).2
  have h2 := hT.1
  exact ⟨by rw [hv, hR], hT, fun e => absurd (hR.symm.trans e) (nI_nm1 (by omega)), hf⟩
set_option maxRecDepth 100000 in
set_option maxHeartbeats 800000 in
theorem c_X9_read (t : CT) {v : Value} {q a : Nat} (hX : ∀ U H, t.2.2.2 U H → txW v q a U H) (hv : v = .null ∨ ∃ z, v = .ref z) {Y : Nat → Int32} {n : Nat} (M : MM) (hT : TY Y n M) : XMet (wC t) yX9_read cX9_read 2 (some .int) 70 [.ref (t.1 5)] M (RdO Y n M) := by
  refine x_met RX9 (by decide) rfl (Nat.le_of_ble_eq_true rfl) (fun κ C X E => ?_)
  refine x_L (L' := [(0, .ref (t.1 5))]) rfl ?_
  have h160 := hT.1
  refine x_aload_n (pc := 0) C 0 dX9_read_0 rfl ?_
  refine g_Tape_rule (pc := 1) C E q3_14 dX9_read_1 ?_
  refine x_callV (pc := 4) C E [] [] (c_X6_clear t _ (by decide)) m_X6_clear q8_7 (xo_Rule (q := 6) (by omega)) rfl (by decide) (Nat.le_of_ble_eq_true rfl) dX9_read_4 rfl (k_U ?_)
  refine x_aload_n (pc := 7) C 0 dX9_read_7 rfl ?_
  refine x_iconst (pc := 8) (v := (nI 0)) C dX9_read_8 (by decide) ?_
  refine p_Tape_next (pc := 9) C E q8_4 dX9_read_9 ?_
  refine x_aload_n (pc := 12) C 0 dX9_read_12 rfl ?_
  have hT0 : TY Y n (mu (mu M (19 + 5 * 6) 4 0) 5 4 (nI 0)) := ⟨hT.1, by rw [mu_at, if_neg (by omega), mu_n _ _ _ _ (by decide)]; exact hT.2.1, fun k hk => by rw [mu_n _ _ _ _ (by decide), mu_n _ _ _ _ (by decide)]; exact hT.2.2 k hk⟩
  refine x_callV (pc := 13) C E [] [] (c_X9_advance t _ hX hv hT0 (x := 0) (mu_s _ _ _ _) (Nat.zero_le _)) m_X9_advance q8_12 xo_Tape rfl (by decide) (Nat.le_of_ble_eq_true rfl) dX9_read_13 rfl (fun r M13 hc13 => ?_)
  obtain ⟨rfl, hk13, hf13⟩ := hc13
  show XV κ (xP (wC t) M13) 16 _ []
  have hI0 : RdI Y n 0 M M13 := ⟨ty_fr hT0 hf13, hk13, ⟨(hf13 _ _ (by omega)).trans (by rw [mu_n _ _ _ _ (by decide), mu_s]; rfl), fun i hi => absurd hi (Nat.not_lt_zero _)⟩, fun k hk => absurd hk (Nat.not_lt_zero _), fun a b u1 u2 u3 u4 => by rw [hf13 a b (by omega), mu_at, if_neg (by omega), mu_at, if_neg (by omega)]⟩
  refine x_iconst (pc := 16) (v := (nI 0)) C dX9_read_16 (by decide) ?_
  refine x_istore_n (pc := 17) (L' := [(1, .int (nI 0)), (0, .ref (t.1 5))]) C dX9_read_17 (by decide) rfl ?_
  have loop18 : ∀ (k p : Nat) (y : Int32) (Mx : MM) , p + k = 3 → y = nI p → RdI Y n p M Mx → (pSt Y n p).length ≤ pX Y n p → pRd Y n p k = pRd Y n 0 3 → XV κ (xP (wC t) Mx) 18 [(1, .int y), (0, .ref (t.1 5))] [] := by
    intro k
    induction k with
      | zero =>
        intro p y Mx  hcnt ey eMx hz hg
        subst ey
        obtain rfl : 3 = p := by omega
        refine x_iload_n (pc := 18) C 0 dX9_read_18 rfl ?_
        refine x_iconst (pc := 19) (v := (nI 3)) C dX9_read_19 (by decide) ?_
        refine x_icmp_ge_t (pc := 20) C 83 dX9_read_20 (by decide) (nI_le (by omega) (by decide)) ?_
        refine x_aload_n (pc := 83) C 1 dX9_read_83 rfl ?_
        refine g_Tape_token (pc := 84) C E q8_5 dX9_read_84 ?_
        refine x_eq (show Mx 5 5 = tkK Y n (pX Y n 3) from eMx.2.1.2.2.1) ?_
        refine x_if_ne (pc := 87) C 94 dX9_read_87 (by decide) (fun h87 => ?_) (fun h87 => ?_)
        · refine x_aload_n (pc := 94) C 1 dX9_read_94 rfl ?_
          refine g_Tape_place (pc := 95) C E q8_6 dX9_read_95 ?_
          refine x_eq (show Mx 5 3 = nI (tkP Y n (pX Y n 3)) from eMx.2.1.1) ?_
          exact x_iret (pc := 98) C X dX9_read_98 (rd_bad eMx.1 (pX_le 3 (by omega)) rfl (by rw [← hg, pRd, if_neg h87]) eMx.2.2.2.2)
        · refine x_iconst (pc := 90) (v := (-1)) C dX9_read_90 rfl ?_
          refine x_goto (pc := 91) C 98 dX9_read_91 (by decide) ?_
          exact x_iret (pc := 98) C X dX9_read_98 ⟨by rw [← hg, pRd, if_pos h87], eMx.1, fun _ => ⟨eMx.2.2.1, eMx.2.2.2.1⟩, eMx.2.2.2.2⟩
      | succ k ih =>
        intro p y Mx  hcnt ey eMx hz hg
        subst ey
        have hi18 : p < 3 := by omega
        have hzx := hz
        refine x_iload_n (pc := 18) C 0 dX9_read_18 rfl ?_
        refine x_iconst (pc := 19) (v := (nI 3)) C dX9_read_19 (by decide) ?_
        refine x_icmp_ge_f (pc := 20) C 83 dX9_read_20 (by decide) (nI_ge (by omega) (by decide)) ?_
        refine x_aload_n (pc := 23) C 1 dX9_read_23 rfl ?_
        refine g_Tape_token (pc := 24) C E q8_5 dX9_read_24 ?_
        refine x_eq (show Mx 5 5 = tkK Y n (pX Y n p) from eMx.2.1.2.2.1) ?_
        refine x_iconst (pc := 27) (v := (nI 4)) C dX9_read_27 (by decide) ?_
        refine x_iload_n (pc := 28) C 0 dX9_read_28 rfl ?_
        refine x_iadd (pc := 29) C dX9_read_29 ?_
        refine x_eq (show (nI 4) + (nI p) = nI (4 + p) from nI_add _ _) ?_
        refine x_icmp_eq (pc := 30) C 38 dX9_read_30 (by decide) (fun h30 => ?_) (fun h30 => ?_)
        · refine x_aload_n (pc := 38) C 1 dX9_read_38 rfl ?_
          have ha39 := tk_adv (Y := Y) (pX_le p (by omega)) (by rw [h30]; have h4 := nI_toInt (n := 4 + p) (by omega); intro e; rw [e] at h4; have h0 : (0 : Int32).toInt = 0 := rfl; omega)
          refine x_callV (pc := 39) C E [] [] (c_X9_advance t _ hX hv eMx.1 (x := tkE Y n (pX Y n p)) eMx.2.1.2.1 ha39.2) m_X9_advance q8_12 xo_Tape rfl (by omega) (Nat.le_of_ble_eq_true rfl) dX9_read_39 rfl (fun r M39 hc39 => ?_)
          obtain ⟨rfl, hk39, hf39⟩ := hc39
          show XV κ (xP (wC t) M39) 42 _ []
          have hT39 := ty_fr eMx.1 hf39
          refine x_aload_n (pc := 42) C 1 dX9_read_42 rfl ?_
          refine x_iconst (pc := 43) (v := (nI 0)) C dX9_read_43 (by decide) ?_
          refine x_iconst (pc := 44) (v := (nI 0)) C dX9_read_44 (by decide) ?_
          refine x_callV (pc := 45) C E [.int (nI 0), .int (nI 0)] [] ((c_Lv t hX hv 5 (by decide)).2 5 (by decide) _ (pSt Y n p) (tkE Y n (pX Y n p)) hT39 hk39 (sl_fr eMx.2.2.1 hf39) (by have := ha39; omega) ha39.2) m_X9_readLevel q9_20 xo_Tape rfl (by decide) (Nat.le_of_ble_eq_true rfl) dX9_read_45 rfl (fun r M45 hc45 => ?_)
          obtain ⟨rfl, hP45⟩ := hc45
          have hG := PG_Lv (Y := Y) 5 5 (tkE Y n (pX Y n p)) ha39.2
          have hPt := pPt_y h30
          show XV κ (xP (wC t) M45) 48 _ [.int (b2i (pLv Y n 5 5 (tkE Y n (pX Y n p))).1)]
          refine x_ifb_eq (pc := 48) C 60 dX9_read_48 (by decide) (fun h48 => ?_) (fun h48 => ?_)
          · refine x_aload_n (pc := 60) C 1 dX9_read_60 rfl ?_
            refine g_Tape_place (pc := 61) C E q8_6 dX9_read_61 ?_
            refine x_eq (show M45 5 3 = nI (tkP Y n ((pLv Y n 5 5 (tkE Y n (pX Y n p))).2.1)) from hP45.2.1.1) ?_
            exact x_iret (pc := 64) C X dX9_read_64 (by have hE : pPt Y n p (pX Y n p) = pzF (pLv Y n 5 5 (tkE Y n (pX Y n p))).2.1 := (by rw [hPt]; unfold pCl; rw [if_pos h48]); exact rd_bad hP45.1 hG.1 rfl (by rw [← hg, pRd, if_neg (by rw [hE]; exact Bool.false_ne_true)]; show nI (tkP Y n (pPt Y n p (pX Y n p)).2.1) = _; rw [hE]; rfl) ((eMx.2.2.2.2.tr (Tg.f (Tf.a hf39))).tr (Tg.f hP45.2.2.2.2)))
          · refine x_aload_n (pc := 51) C 1 dX9_read_51 rfl ?_
            refine g_Tape_token (pc := 52) C E q8_5 dX9_read_52 ?_
            refine x_eq (show M45 5 5 = tkK Y n ((pLv Y n 5 5 (tkE Y n (pX Y n p))).2.1) from hP45.2.1.2.2.1) ?_
            refine x_bipush (pc := 55) (v := 59) C dX9_read_55 rfl ?_
            refine x_icmp_eq (pc := 57) C 65 dX9_read_57 (by decide) (fun h57 => ?_) (fun h57 => ?_)
            · refine x_aload_n (pc := 65) C 1 dX9_read_65 rfl ?_
              refine g_Tape_rule (pc := 66) C E q3_14 dX9_read_66 ?_
              refine x_iload_n (pc := 69) C 0 dX9_read_69 rfl ?_
              refine x_callV (pc := 70) C E [.int (nI p)] [] (c_X6_endPart t _ (q := 6) (by decide) (p := p) (by omega)) m_X6_endPart q10_16 (xo_Rule (q := 6) (by decide)) rfl (by decide) (Nat.le_of_ble_eq_true rfl) dX9_read_70 rfl (k_U ?_)
              have hSl := hP45.2.2.2.1 h48
              have hE : pPt Y n p (pX Y n p) = (true, tkE Y n (pLv Y n 5 5 (tkE Y n (pX Y n p))).2.1, (pLv Y n 5 5 (tkE Y n (pX Y n p))).2.2.1, (pLv Y n 5 5 (tkE Y n (pX Y n p))).2.2.2) := by rw [hPt]; unfold pCl; rw [if_neg (by rw [h48]; decide), if_pos h57]
              have hXS : pX Y n (p + 1) = tkE Y n (pLv Y n 5 5 (tkE Y n (pX Y n p))).2.1 := by show (pPt Y n p (pX Y n p)).2.1 = _; rw [hE]
              have hSS : pSt Y n (p + 1) = pSt Y n p ++ (pLv Y n 5 5 (tkE Y n (pX Y n p))).2.2.1 := by show pSt Y n p ++ (pPt Y n p (pX Y n p)).2.2.1 = _; rw [hE]
              have hT70 : TY Y n (mu M45 (21 + 5 * 6) p (M45 (19 + 5 * 6) 4)) := ⟨hP45.1.1, by rw [mu_n _ _ _ _ (by decide)]; exact hP45.1.2.1, fun k hk => by rw [mu_n _ _ _ _ (by decide)]; exact hP45.1.2.2 k hk⟩
              have hTk70 : Tk Y n (pLv Y n 5 5 (tkE Y n (pX Y n p))).2.1 (mu M45 (21 + 5 * 6) p (M45 (19 + 5 * 6) 4)) := tk_fr hP45.2.1 (fun b => congrFun (mu_n _ _ _ _ (by decide)) b)
              refine x_aload_n (pc := 73) C 1 dX9_read_73 rfl ?_
              have ha74 := tk_adv (Y := Y) hG.1 (by rw [h57]; decide)
              refine x_callV (pc := 74) C E [] [] (c_X9_advance t _ hX hv hT70 (x := tkE Y n ((pLv Y n 5 5 (tkE Y n (pX Y n p))).2.1)) hTk70.2.1 ha74.2) m_X9_advance q8_12 xo_Tape rfl (by omega) (Nat.le_of_ble_eq_true rfl) dX9_read_74 rfl (fun r M74 hc74 => ?_)
              obtain ⟨rfl, hk74, hf74⟩ := hc74
              show XV κ (xP (wC t) M74) 77 _ []
              have hT74 := ty_fr hT70 hf74
              refine x_iinc (pc := 77) (v := nI (p + 1)) (L' := [(1, .int (nI (p + 1))), (0, .ref (t.1 5))]) C 0 dX9_read_77 rfl (nI_1 _) (by decide) rfl ?_
              refine x_goto (pc := 80) C 18 dX9_read_80 (by decide) ?_
              refine x_sub [0, 1] rfl ?_
              refine ih (p + 1) _ _ (by omega) rfl ⟨hT74, by rw [hXS]; exact hk74, ?_, ?_, ?_⟩ ?_ ?_
              · rw [hSS]
                exact ⟨(hf74 _ _ (by omega)).trans (by rw [mu_n _ _ _ _ (by decide)]; exact hSl.1), fun i hi => (hf74 _ _ (by omega)).trans (by rw [mu_n _ _ _ _ (by decide)]; exact hSl.2 i hi)⟩
              · intro j hj
                rw [hf74 _ _ (by omega)]
                by_cases g : j = p
                · subst g; rw [mu_s, hSl.1, hSS]
                · rw [mu_k _ _ _ _ g, hP45.2.2.2.2 _ _ (by omega) (by omega) (by omega), hf39 _ _ (by omega)]
                  exact eMx.2.2.2.1 j (by omega)
              · intro a b u1 u2 u3 u4
                rw [hf74 a b (by omega), mu_n _ _ _ _ (by omega), hP45.2.2.2.2 a b u1 u2 u3, hf39 a b (by omega)]
                exact eMx.2.2.2.2 a b u1 u2 u3 u4
              · rw [hSS, hXS, List.length_append]
                have g1 := (hG.2 h48).1
                have g2 := ha39
                have g3 := ha74
                omega
              · rw [← hg, pRd, if_pos (by rw [hE])]
            · refine x_aload_n (pc := 60) C 1 dX9_read_60 rfl ?_
              refine g_Tape_place (pc := 61) C E q8_6 dX9_read_61 ?_
              refine x_eq (show M45 5 3 = nI (tkP Y n ((pLv Y n 5 5 (tkE Y n (pX Y n p))).2.1)) from hP45.2.1.1) ?_
              exact x_iret (pc := 64) C X dX9_read_64 (by have hE : pPt Y n p (pX Y n p) = pzF (pLv Y n 5 5 (tkE Y n (pX Y n p))).2.1 := (by rw [hPt]; unfold pCl; rw [if_neg (by rw [h48]; decide), if_neg h57]); exact rd_bad hP45.1 hG.1 rfl (by rw [← hg, pRd, if_neg (by rw [hE]; exact Bool.false_ne_true)]; show nI (tkP Y n (pPt Y n p (pX Y n p)).2.1) = _; rw [hE]; rfl) ((eMx.2.2.2.2.tr (Tg.f (Tf.a hf39))).tr (Tg.f hP45.2.2.2.2)))
        · refine x_aload_n (pc := 33) C 1 dX9_read_33 rfl ?_
          refine g_Tape_place (pc := 34) C E q8_6 dX9_read_34 ?_
          refine x_eq (show Mx 5 3 = nI (tkP Y n (pX Y n p)) from eMx.2.1.1) ?_
          exact x_iret (pc := 37) C X dX9_read_37 (rd_bad eMx.1 (pX_le p (by omega)) rfl (by rw [← hg, pRd, if_neg (by rw [pPt_n h30]; exact Bool.false_ne_true)]; show nI (tkP Y n (pPt Y n p (pX Y n p)).2.1) = _; rw [pPt_n h30]; rfl) eMx.2.2.2.2)
  refine x_sub [0, 1] rfl ?_
  exact loop18 3 0 _ _ (by omega) rfl hI0 (Nat.le_refl _) rfl

