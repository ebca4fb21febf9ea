set_option maxRecDepth 100000 in
set_option maxHeartbeats 800000 in
theorem c_X9_readDenied (t : CT) {v : Value} {q a : Nat} (hX : ∀ U H, t.2.2.2 U H → txW v q a U H) (hv : v = .null ∨ ∃ z, v = .ref z) {Y : Nat → Int32} {n : Nat} {g : Nat} (hg : g ≤ 5) {g0 : Bool} (h0 : g0 = decide (g = 0)) {sub : Nat → Nat → PR} (hL3 : g0 = false → (∀ (M : MM) (z : List Int32) (x : Nat), TY Y n M → Tk Y n x M → Sl z M → z.length ≤ x → x ≤ n → XMet (wC t) yX9_readLevel cX9_readLevel 7 (some .boolean) (14 + 10 * (g - 1)) [.ref (t.1 5), .int (nI (2)), .int (nI (5 - (g - 1)))] M (PMf Y n z (sub 3 x) M))) (hPG : g0 = false → ∀ y, y ≤ n → ∃ N, PG n N y (sub 0 y) ∧ PG n N y (sub 5 y) ∧ PG n N y (sub 3 y)) (M : MM) (z : List Int32) (x : Nat) (hT : TY Y n M) (hTk : Tk Y n x M) (hS : Sl z M) (hzx : z.length ≤ x) (hxn : x ≤ n) (h9 : tkK Y n x = 9) : XMet (wC t) yX9_readDenied cX9_readDenied 3 (some .boolean) (10 + 10 * g) [.ref (t.1 5), .int (nI (5 - g))] M (PMf Y n z (if g0 = true then pzF x else pDen (sub 3 (tkE Y n x))) M) := by
  refine x_met RX9 (by decide) rfl (Nat.le_of_ble_eq_true rfl) (fun κ C X E => ?_)
  refine x_L (L' := [(0, .ref (t.1 5)), (1, .int (nI (5 - g)))]) rfl ?_
  have h160 := hT.1
  refine x_iload_n (pc := 0) C 1 dX9_readDenied_0 rfl ?_
  refine x_iconst (pc := 1) (v := (nI 5)) C dX9_readDenied_1 (by decide) ?_
  refine x_icmp_lt (pc := 2) C 7 dX9_readDenied_2 (by decide) (fun h2 => ?_) (fun h2 => ?_)
  · have hgp : 0 < g := Nat.pos_of_ne_zero (fun e => absurd h2 (by rw [e]; decide))
    have hg0 : g0 = false := by rw [h0]; exact decide_eq_false (by omega)
    refine x_aload_n (pc := 7) C 0 dX9_readDenied_7 rfl ?_
    have ha8 := tk_adv (Y := Y) hxn (by rw [h9]; decide)
    refine x_callV (pc := 8) C E [] [] (c_X9_advance t _ hX hv hT (x := tkE Y n (x)) hTk.2.1 ha8.2) m_X9_advance q8_12 xo_Tape rfl (by omega) (Nat.le_of_ble_eq_true rfl) dX9_readDenied_8 rfl (fun r M8 hc8 => ?_)
    obtain ⟨rfl, hk8, hf8⟩ := hc8
    show XV κ (xP (wC t) M8) 11 _ []
    have hT8 := ty_fr hT hf8
    refine x_aload_n (pc := 11) C 0 dX9_readDenied_11 rfl ?_
    refine x_iconst (pc := 12) (v := (nI 2)) C dX9_readDenied_12 (by decide) ?_
    refine x_iload_n (pc := 13) C 1 dX9_readDenied_13 rfl ?_
    refine x_iconst (pc := 14) (v := (nI 1)) C dX9_readDenied_14 (by decide) ?_
    refine x_iadd (pc := 15) C dX9_readDenied_15 ?_
    refine x_eq (show (nI (5 - g)) + (nI 1) = nI (5 - (g - 1)) from (by rw [nI_add]; congr 1; omega)) ?_
    refine x_callV (pc := 16) C E [.int (nI 2), .int (nI (5 - (g - 1)))] [] (hL3 hg0 _ z (tkE Y n x) hT8 hk8 (sl_fr hS hf8) (by have := ha8; omega) ha8.2) m_X9_readLevel q9_20 xo_Tape rfl (by omega) (Nat.le_of_ble_eq_true rfl) dX9_readDenied_16 rfl (fun r M16 hc16 => ?_)
    obtain ⟨rfl, hP16⟩ := hc16
    obtain ⟨N, hN⟩ := hPG hg0 (tkE Y n x) ha8.2
    have hG := hN.2.2
    show XV κ (xP (wC t) M16) 19 _ [.int (b2i (sub 3 (tkE Y n x)).1)]
    refine x_istore_n (pc := 19) (L' := [(2, .int (b2i (sub 3 (tkE Y n x)).1)), (0, .ref (t.1 5)), (1, .int (nI (5 - g)))]) C dX9_readDenied_19 (by decide) rfl ?_
    refine x_aload_n (pc := 20) C 1 dX9_readDenied_20 rfl ?_
    refine g_Tape_rule (pc := 21) C E q3_14 dX9_readDenied_21 ?_
    refine x_bipush (pc := 24) (v := (-8)) C dX9_readDenied_24 rfl ?_
    obtain ⟨j26, hj26, ej26⟩ := hP16.2.2.1
    refine x_callV (pc := 26) C E [.int (-8)] [] (c_X6_add t _ (q := 6) (by decide) ej26 hj26 _) m_X6_add q10_10 (xo_Rule (q := 6) (by decide)) rfl (by omega) (Nat.le_of_ble_eq_true rfl) dX9_readDenied_26 rfl (k_U ?_)
    refine x_M (M' := adM M16 j26 (-8)) rfl ?_
    refine x_iload_n (pc := 29) C 0 dX9_readDenied_29 rfl ?_
    exact x_bret (pc := 30) C X (b := (sub 3 (tkE Y n x)).1) rfl dX9_readDenied_30 (by rw [if_neg (show ¬ g0 = true by rw [hg0]; decide)]; exact ⟨rfl, pm_pre hf8 (pm_add (R' := pDen (sub 3 (tkE Y n x))) hP16 hj26 ej26 rfl rfl rfl (fun hr => by have := (hG.2 hr).1; have := hG.1; have := ha8; have := hT.1; omega))⟩)
  · refine x_iconst (pc := 5) (v := 0) C dX9_readDenied_5 rfl ?_
    exact x_bret (pc := 6) C X (b := false) rfl dX9_readDenied_6 (by rw [if_pos (show g0 = true by rw [h0]; exact decide_eq_true (Decidable.byContradiction fun hh => h2 (nI_lt (show 5 - g < 5 by omega) (by decide))))]; exact pm_0 hT hTk hS hzx hxn rfl rfl)

set_option maxRecDepth 100000 in
set_option maxHeartbeats 800000 in
theorem c_X9_readLevel0 (t : CT) {v : Value} {q a : Nat} (hX : ∀ U H, t.2.2.2 U H → txW v q a U H) (hv : v = .null ∨ ∃ z, v = .ref z) {Y : Nat → Int32} {n : Nat} {g : Nat} (hg : g ≤ 5) {g0 : Bool} (h0 : g0 = decide (g = 0)) {sub : Nat → Nat → PR} (hOne : (∀ (M : MM) (z : List Int32) (x : Nat), TY Y n M → Tk Y n x M → Sl z M → z.length ≤ x → x ≤ n → XMet (wC t) yX9_readOne cX9_readOne 4 (some .boolean) (10 + 10 * g) [.ref (t.1 5), .int (nI (5 - g))] M (PMf Y n z (pOne Y n g0 sub x) M))) (M : MM) (z : List Int32) (x : Nat) (hT : TY Y n M) (hTk : Tk Y n x M) (hS : Sl z M) (hzx : z.length ≤ x) (hxn : x ≤ n) : XMet (wC t) yX9_readLevel cX9_readLevel 7 (some .boolean) (11 + 10 * g) [.ref (t.1 5), .int (nI 5), .int (nI (5 - g))] M (PMf Y n z (lev Y n g0 sub 0 x) M) := by
  refine x_met RX9 (by decide) rfl (Nat.le_of_ble_eq_true rfl) (fun κ C X E => ?_)
  refine x_L (L' := [(0, .ref (t.1 5)), (1, .int (nI 5)), (2, .int (nI (5 - g)))]) rfl ?_
  have h160 := hT.1
  refine x_iload_n (pc := 0) C 1 dX9_readLevel_0 rfl ?_
  refine x_iconst (pc := 1) (v := (nI 5)) C dX9_readLevel_1 (by decide) ?_
  refine x_icmp_lt_f (pc := 2) C 11 dX9_readLevel_2 (by decide) (by decide) ?_
  refine x_aload_n (pc := 5) C 0 dX9_readLevel_5 rfl ?_
  refine x_iload_n (pc := 6) C 2 dX9_readLevel_6 rfl ?_
  refine x_callV (pc := 7) C E [.int (nI (5 - g))] [] (hOne _ z x hT hTk hS hzx hxn) m_X9_readOne q10_0 xo_Tape rfl (by omega) (Nat.le_of_ble_eq_true rfl) dX9_readLevel_7 rfl (fun r M7 hc7 => ?_)
  obtain ⟨rfl, hP7⟩ := hc7
  show XV κ (xP (wC t) M7) 10 _ [.int (b2i (pOne Y n g0 sub x).1)]
  exact x_bret (pc := 10) C X (b := (pOne Y n g0 sub x).1) rfl dX9_readLevel_10 ⟨rfl, hP7⟩

set_option maxRecDepth 100000 in
set_option maxHeartbeats 800000 in
theorem c_X9_readLevelS (t : CT) {v : Value} {q a : Nat} (hX : ∀ U H, t.2.2.2 U H → txW v q a U H) (hv : v = .null ∨ ∃ z, v = .ref z) {Y : Nat → Int32} {n : Nat} {g : Nat} (hg : g ≤ 5) {g0 : Bool} {sub : Nat → Nat → PR} {m : Nat} (hm4 : m ≤ 4) {NN : Nat} (hSub : (∀ (M : MM) (z : List Int32) (x : Nat), TY Y n M → Tk Y n x M → Sl z M → z.length ≤ x → x ≤ n → XMet (wC t) yX9_readLevel cX9_readLevel 7 (some .boolean) (11 + 10 * g + m) [.ref (t.1 5), .int (nI (5 - m)), .int (nI (5 - g))] M (PMf Y n z (lev Y n g0 sub m x) M))) (hDen : m = 2 → (∀ (M : MM) (z : List Int32) (x : Nat), TY Y n M → Tk Y n x M → Sl z M → z.length ≤ x → x ≤ n → tkK Y n x = 9 → XMet (wC t) yX9_readDenied cX9_readDenied 3 (some .boolean) (10 + 10 * g) [.ref (t.1 5), .int (nI (5 - g))] M (PMf Y n z ((if g0 = true then pzF x else pDen (sub 3 (tkE Y n x)))) M))) (hPGm : ∀ y, y ≤ n → PG n NN y (lev Y n g0 sub m y)) (M : MM) (z : List Int32) (x : Nat) (hT : TY Y n M) (hTk : Tk Y n x M) (hS : Sl z M) (hzx : z.length ≤ x) (hxn : x ≤ n) : XMet (wC t) yX9_readLevel cX9_readLevel 7 (some .boolean) (12 + 10 * g + m) [.ref (t.1 5), .int (nI (4 - m)), .int (nI (5 - g))] M (PMf Y n z (lev Y n g0 sub (m + 1) x) M) := by
  refine x_met RX9 (by decide) rfl (Nat.le_of_ble_eq_true rfl) (fun κ C X E => ?_)
  refine x_L (L' := [(0, .ref (t.1 5)), (1, .int (nI (4 - m))), (2, .int (nI (5 - g)))]) rfl ?_
  have h160 := hT.1
  have hPG0 := hPGm x hxn
  refine x_iload_n (pc := 0) C 1 dX9_readLevel_0 rfl ?_
  refine x_iconst (pc := 1) (v := (nI 5)) C dX9_readLevel_1 (by decide) ?_
  refine x_icmp_lt_t (pc := 2) C 11 dX9_readLevel_2 (by decide) (nI_lt (by omega) (by decide)) ?_
  refine x_iload_n (pc := 11) C 1 dX9_readLevel_11 rfl ?_
  refine x_iconst (pc := 12) (v := (nI 2)) C dX9_readLevel_12 (by decide) ?_
  refine x_icmp_ne (pc := 13) C 31 dX9_readLevel_13 (by decide) (fun h13 => ?_) (fun h13 => ?_)
  · have hm : ¬ m = 2 := fun e => h13 (by subst e; rfl)
    refine x_aload_n (pc := 31) C 0 dX9_readLevel_31 rfl ?_
    refine x_iload_n (pc := 32) C 1 dX9_readLevel_32 rfl ?_
    refine x_iconst (pc := 33) (v := (nI 1)) C dX9_readLevel_33 (by decide) ?_
    refine x_iadd (pc := 34) C dX9_readLevel_34 ?_
    refine x_eq (show (nI (4 - m)) + (nI 1) = nI (5 - m) from (by rw [nI_add]; congr 1; omega)) ?_
    refine x_iload_n (pc := 35) C 2 dX9_readLevel_35 rfl ?_
    refine x_callV (pc := 36) C E [.int (nI (5 - m)), .int (nI (5 - g))] [] (hSub _ z x hT hTk hS hzx hxn) m_X9_readLevel q9_20 xo_Tape rfl (by omega) (Nat.le_of_ble_eq_true rfl) dX9_readLevel_36 rfl (fun r M36 hc36 => ?_)
    obtain ⟨rfl, hP36⟩ := hc36
    show XV κ (xP (wC t) M36) 39 _ [.int (b2i (lev Y n g0 sub m x).1)]
    refine x_istore_n (pc := 39) (L' := [(3, .int (b2i (lev Y n g0 sub m x).1)), (0, .ref (t.1 5)), (1, .int (nI (4 - m))), (2, .int (nI (5 - g)))]) C dX9_readLevel_39 (by decide) rfl ?_
    refine x_iload_n (pc := 40) C 2 dX9_readLevel_40 rfl ?_
    refine x_iconst (pc := 41) (v := 2) C dX9_readLevel_41 rfl ?_
    refine x_icmp_ne_t (pc := 42) C 49 dX9_readLevel_42 (by decide) h13 ?_
    refine x_sipush (pc := 49) (v := (nI 160)) C dX9_readLevel_49 (by decide) ?_
    refine x_istore (pc := 52) (L' := [(4, .int (nI 160)), (3, .int (b2i (lev Y n g0 sub m x).1)), (0, .ref (t.1 5)), (1, .int (nI (4 - m))), (2, .int (nI (5 - g)))]) C dX9_readLevel_52 (by decide) rfl ?_
    refine x_iconst (pc := 54) (v := (nI 0)) C dX9_readLevel_54 (by decide) ?_
    refine x_istore (pc := 55) (L' := [(5, .int (nI 0)), (4, .int (nI 160)), (3, .int (b2i (lev Y n g0 sub m x).1)), (0, .ref (t.1 5)), (1, .int (nI (4 - m))), (2, .int (nI (5 - g)))]) C dX9_readLevel_55 (by decide) rfl ?_
    have loop57 : ∀ (k i : Nat) (f : Int32) (y : Int32) (Mx : MM) (A : PR), i + k = 160 → f = b2i A.1 → y = nI i → PM Y n z A M Mx → PG n (NN + 1) x A → chn Y n (4 - m) (lev Y n g0 sub m) k A = lev Y n g0 sub (m + 1) x → XV κ (xP (wC t) Mx) 57 [(5, .int y), (4, .int (nI 160)), (3, .int f), (0, .ref (t.1 5)), (1, .int (nI (4 - m))), (2, .int (nI (5 - g)))] [] := by
      intro k
      induction k with
        | zero =>
          intro i f y Mx A hcnt ef ey eMx hPA hch
          subst ef
          subst ey
          obtain rfl : 160 = i := by omega
          have hA := eMx
          refine x_iload (pc := 57) C 0 dX9_readLevel_57 rfl ?_
          refine x_iload (pc := 59) C 1 dX9_readLevel_59 rfl ?_
          refine x_icmp_ge_t (pc := 61) C 112 dX9_readLevel_61 (by decide) (nI_le (by omega) (by decide)) ?_
          refine x_iload_n (pc := 112) C 2 dX9_readLevel_112 rfl ?_
          exact x_bret (pc := 113) C X (b := A.1) rfl dX9_readLevel_113 (by rw [← hch, chn]; exact ⟨rfl, eMx⟩)
        | succ k ih =>
          intro i f y Mx A hcnt ef ey eMx hPA hch
          subst ef
          subst ey
          have hi57 : i < 160 := by omega
          have hA := eMx
          refine x_iload (pc := 57) C 0 dX9_readLevel_57 rfl ?_
          refine x_iload (pc := 59) C 1 dX9_readLevel_59 rfl ?_
          refine x_icmp_ge_f (pc := 61) C 112 dX9_readLevel_61 (by decide) (nI_ge (by omega) (by decide)) ?_
          refine x_iload_n (pc := 64) C 2 dX9_readLevel_64 rfl ?_
          refine x_ifb_eq (pc := 65) C 112 dX9_readLevel_65 (by decide) (fun h65 => ?_) (fun h65 => ?_)
          · refine x_iload_n (pc := 112) C 2 dX9_readLevel_112 rfl ?_
            exact x_bret (pc := 113) C X (b := A.1) rfl dX9_readLevel_113 (by rw [← hch, chn, if_pos (Or.inl h65)]; exact ⟨by rw [h65], eMx⟩)
          · refine x_aload_n (pc := 68) C 3 dX9_readLevel_68 rfl ?_
            refine x_iload_n (pc := 69) C 4 dX9_readLevel_69 rfl ?_
            refine x_callV (pc := 70) C E [.int (nI (4 - m))] [] (c_X9_stepOn t Mx hA.2.1.2.2.1 (l := 4 - m) (by omega)) m_X9_stepOn q10_6 xo_Tape rfl (by omega) (Nat.le_of_ble_eq_true rfl) dX9_readLevel_70 rfl (k_I ?_)
            refine x_iconst (pc := 73) (v := (-1)) C dX9_readLevel_73 rfl ?_
            refine x_icmp_eq (pc := 74) C 112 dX9_readLevel_74 (by decide) (fun h74 => ?_) (fun h74 => ?_)
            · refine x_iload_n (pc := 112) C 2 dX9_readLevel_112 rfl ?_
              exact x_bret (pc := 113) C X (b := A.1) rfl dX9_readLevel_113 (by rw [← hch, chn, if_pos (Or.inr h74)]; exact ⟨rfl, eMx⟩)
            · refine x_aload_n (pc := 77) C 3 dX9_readLevel_77 rfl ?_
              refine x_iload_n (pc := 78) C 4 dX9_readLevel_78 rfl ?_
              refine x_callV (pc := 79) C E [.int (nI (4 - m))] [] (c_X9_stepOn t Mx hA.2.1.2.2.1 (l := 4 - m) (by omega)) m_X9_stepOn q10_6 xo_Tape rfl (by omega) (Nat.le_of_ble_eq_true rfl) dX9_readLevel_79 rfl (k_I ?_)
              refine x_istore (pc := 82) (L' := [(6, .int (stp (4 - m) (tkK Y n A.2.1))), (5, .int (nI i)), (4, .int (nI 160)), (3, .int (b2i A.1)), (0, .ref (t.1 5)), (1, .int (nI (4 - m))), (2, .int (nI (5 - g)))]) C dX9_readLevel_82 (by decide) rfl ?_
              refine x_aload_n (pc := 84) C 4 dX9_readLevel_84 rfl ?_
              have ha85 := tk_adv (Y := Y) hPA.1 (stp_j h74).2
              refine x_callV (pc := 85) C E [] [] (c_X9_advance t _ hX hv hA.1 (x := tkE Y n (A.2.1)) hA.2.1.2.1 ha85.2) m_X9_advance q8_12 xo_Tape rfl (by omega) (Nat.le_of_ble_eq_true rfl) dX9_readLevel_85 rfl (fun r M85 hc85 => ?_)
              obtain ⟨rfl, hk85, hf85⟩ := hc85
              show XV κ (xP (wC t) M85) 88 _ []
              have hT85 := ty_fr hA.1 hf85
              refine x_aload_n (pc := 88) C 4 dX9_readLevel_88 rfl ?_
              refine x_iload_n (pc := 89) C 5 dX9_readLevel_89 rfl ?_
              refine x_iconst (pc := 90) (v := (nI 1)) C dX9_readLevel_90 (by decide) ?_
              refine x_iadd (pc := 91) C dX9_readLevel_91 ?_
              refine x_eq (show (nI (4 - m)) + (nI 1) = nI (5 - m) from (by rw [nI_add]; congr 1; omega)) ?_
              refine x_iload_n (pc := 92) C 6 dX9_readLevel_92 rfl ?_
              refine x_callV (pc := 93) C E [.int (nI (5 - m)), .int (nI (5 - g))] [] (hSub _ (z ++ A.2.2.1) (tkE Y n (A.2.1)) hT85 hk85 (sl_fr (hA.2.2.2.1 h65) hf85) (by rw [List.length_append]; have h1 := (hPA.2 h65).1; have h2 := ha85; omega) ha85.2) m_X9_readLevel q9_20 xo_Tape rfl (by omega) (Nat.le_of_ble_eq_true rfl) dX9_readLevel_93 rfl (fun r M93 hc93 => ?_)
              obtain ⟨rfl, hP93⟩ := hc93
              show XV κ (xP (wC t) M93) 96 _ [.int (b2i (lev Y n g0 sub m (tkE Y n (A.2.1))).1)]
              refine x_istore_n (pc := 96) (L' := [(3, .int (b2i (lev Y n g0 sub m (tkE Y n (A.2.1))).1)), (6, .int (stp (4 - m) (tkK Y n A.2.1))), (5, .int (nI i)), (4, .int (nI 160)), (0, .ref (t.1 5)), (1, .int (nI (4 - m))), (2, .int (nI (5 - g)))]) C dX9_readLevel_96 (by decide) rfl ?_
              refine x_aload_n (pc := 97) C 4 dX9_readLevel_97 rfl ?_
              refine g_Tape_rule (pc := 98) C E q3_14 dX9_readLevel_98 ?_
              refine x_iload (pc := 101) C 1 dX9_readLevel_101 rfl ?_
              obtain ⟨j103, hj103, ej103⟩ := hP93.2.2.1
              refine x_callV (pc := 103) C E [.int (stp (4 - m) (tkK Y n A.2.1))] [] (c_X6_add t _ (q := 6) (by decide) ej103 hj103 _) m_X6_add q10_10 (xo_Rule (q := 6) (by decide)) rfl (by omega) (Nat.le_of_ble_eq_true rfl) dX9_readLevel_103 rfl (k_U ?_)
              refine x_M (M' := adM M93 j103 (stp (4 - m) (tkK Y n A.2.1))) rfl ?_
              refine x_iinc (pc := 106) (v := nI (i + 1)) (L' := [(5, .int (nI (i + 1))), (3, .int (b2i (lev Y n g0 sub m (tkE Y n (A.2.1))).1)), (6, .int (stp (4 - m) (tkK Y n A.2.1))), (4, .int (nI 160)), (0, .ref (t.1 5)), (1, .int (nI (4 - m))), (2, .int (nI (5 - g)))]) C 2 dX9_readLevel_106 rfl (nI_1 _) (by decide) rfl ?_
              refine x_goto (pc := 109) C 57 dX9_readLevel_109 (by decide) ?_
              refine x_sub [0, 3, 1, 4, 5, 6] rfl ?_
              have hPJ := PG_jn (Y := Y) (l := 4 - m) hPGm hPA h65 h74
              have hCN : chn Y n (4 - m) (lev Y n g0 sub m) (k + 1) A = chn Y n (4 - m) (lev Y n g0 sub m) k (pJn (stp (4 - m) (tkK Y n A.2.1)) A (lev Y n g0 sub m (tkE Y n A.2.1))) := by rw [chn, if_neg (fun e => e.elim (fun e => by rw [h65] at e; cases e) h74)]
              refine ih (i + 1) _ _ _ (pJn (stp (4 - m) (tkK Y n A.2.1)) A (lev Y n g0 sub m (tkE Y n A.2.1))) (by omega) rfl rfl ?_ hPJ (by rw [← hch, hCN])
              have hp := pm_add (R' := (pJn (stp (4 - m) (tkK Y n A.2.1)) A (lev Y n g0 sub m (tkE Y n A.2.1))).1 |> fun b => (b, (lev Y n g0 sub m (tkE Y n A.2.1)).2.1, (lev Y n g0 sub m (tkE Y n A.2.1)).2.2.1 ++ [(stp (4 - m) (tkK Y n A.2.1))], (lev Y n g0 sub m (tkE Y n A.2.1)).2.2.2)) (s := (stp (4 - m) (tkK Y n A.2.1))) hP93 hj103 ej103 rfl rfl rfl (fun hr => by rw [List.length_append]; have h1 := (hPA.2 h65).1; have h2 := ha85; have h3 := ((hPGm _ ha85.2).2 hr).1; have h4 := (hPGm _ ha85.2).1; omega)
              exact ⟨hp.1, hp.2.1, hp.2.2.1, fun hr => by have h5 := hp.2.2.2.1 hr; rw [List.append_assoc] at h5; show Sl (z ++ (A.2.2.1 ++ (lev Y n g0 sub m (tkE Y n A.2.1)).2.2.1 ++ [(stp (4 - m) (tkK Y n A.2.1))])) _; rw [List.append_assoc]; exact h5, (hA.2.2.2.2.tr (Tf.a hf85)).tr hp.2.2.2.2⟩
    refine x_sub [0, 1, 2, 3, 4, 5] rfl ?_
    exact loop57 160 0 _ _ _ (lev Y n g0 sub m x) (by omega) rfl rfl hP36 ⟨hPG0.1, fun hr => ⟨(hPG0.2 hr).1, (hPG0.2 hr).2.1, PE_up (hPG0.2 hr).2.2 (by omega)⟩⟩ (by rw [lev, if_neg (fun e => h13 (by rw [e.1])), if_neg hm])
  · have hm : m = 2 := by have := (nI_eq (a := 4 - m) (b := 2) (by omega) (by decide)).mp h13; omega
    have hDen := hDen hm
    refine x_aload_n (pc := 16) C 0 dX9_readLevel_16 rfl ?_
    refine g_Tape_token (pc := 17) C E q8_5 dX9_readLevel_17 ?_
    refine x_eq (show M 5 5 = tkK Y n x from hTk.2.2.1) ?_
    refine x_bipush (pc := 20) (v := 9) C dX9_readLevel_20 rfl ?_
    refine x_icmp_ne (pc := 22) C 31 dX9_readLevel_22 (by decide) (fun h22 => ?_) (fun h22 => ?_)
    · refine x_aload_n (pc := 31) C 0 dX9_readLevel_31 rfl ?_
      refine x_iload_n (pc := 32) C 1 dX9_readLevel_32 rfl ?_
      refine x_iconst (pc := 33) (v := (nI 1)) C dX9_readLevel_33 (by decide) ?_
      refine x_iadd (pc := 34) C dX9_readLevel_34 ?_
      refine x_eq (show (nI (4 - m)) + (nI 1) = nI (5 - m) from (by rw [nI_add]; congr 1; omega)) ?_
      refine x_iload_n (pc := 35) C 2 dX9_readLevel_35 rfl ?_
      refine x_callV (pc := 36) C E [.int (nI (5 - m)), .int (nI (5 - g))] [] (hSub _ z x hT hTk hS hzx hxn) m_X9_readLevel q9_20 xo_Tape rfl (by omega) (Nat.le_of_ble_eq_true rfl) dX9_readLevel_36 rfl (fun r M36 hc36 => ?_)
      obtain ⟨rfl, hP36⟩ := hc36
      show XV κ (xP (wC t) M36) 39 _ [.int (b2i (lev Y n g0 sub m x).1)]
      refine x_istore_n (pc := 39) (L' := [(3, .int (b2i (lev Y n g0 sub m x).1)), (0, .ref (t.1 5)), (1, .int (nI (4 - m))), (2, .int (nI (5 - g)))]) C dX9_readLevel_39 (by decide) rfl ?_
      refine x_iload_n (pc := 40) C 2 dX9_readLevel_40 rfl ?_
      refine x_iconst (pc := 41) (v := 2) C dX9_readLevel_41 rfl ?_
      refine x_icmp_ne_f (pc := 42) C 49 dX9_readLevel_42 (by decide) h13 ?_
      refine x_iconst (pc := 45) (v := (nI 1)) C dX9_readLevel_45 (by decide) ?_
      refine x_goto (pc := 46) C 52 dX9_readLevel_46 (by decide) ?_
      refine x_istore (pc := 52) (L' := [(4, .int (nI 1)), (3, .int (b2i (lev Y n g0 sub m x).1)), (0, .ref (t.1 5)), (1, .int (nI (4 - m))), (2, .int (nI (5 - g)))]) C dX9_readLevel_52 (by decide) rfl ?_
      refine x_iconst (pc := 54) (v := (nI 0)) C dX9_readLevel_54 (by decide) ?_
      refine x_istore (pc := 55) (L' := [(5, .int (nI 0)), (4, .int (nI 1)), (3, .int (b2i (lev Y n g0 sub m x).1)), (0, .ref (t.1 5)), (1, .int (nI (4 - m))), (2, .int (nI (5 - g)))]) C dX9_readLevel_55 (by decide) rfl ?_
      have loop57 : ∀ (k i : Nat) (f : Int32) (y : Int32) (Mx : MM) (A : PR), i + k = 1 → f = b2i A.1 → y = nI i → PM Y n z A M Mx → PG n (NN + 1) x A → chn Y n (4 - m) (lev Y n g0 sub m) k A = lev Y n g0 sub (m + 1) x → XV κ (xP (wC t) Mx) 57 [(5, .int y), (4, .int (nI 1)), (3, .int f), (0, .ref (t.1 5)), (1, .int (nI (4 - m))), (2, .int (nI (5 - g)))] [] := by
        intro k
        induction k with
          | zero =>
            intro i f y Mx A hcnt ef ey eMx hPA hch
            subst ef
            subst ey
            obtain rfl : 1 = i := by omega
            have hA := eMx
            refine x_iload (pc := 57) C 0 dX9_readLevel_57 rfl ?_
            refine x_iload (pc := 59) C 1 dX9_readLevel_59 rfl ?_
            refine x_icmp_ge_t (pc := 61) C 112 dX9_readLevel_61 (by decide) (nI_le (by omega) (by decide)) ?_
            refine x_iload_n (pc := 112) C 2 dX9_readLevel_112 rfl ?_
            exact x_bret (pc := 113) C X (b := A.1) rfl dX9_readLevel_113 (by rw [← hch, chn]; exact ⟨rfl, eMx⟩)
          | succ k ih =>
            intro i f y Mx A hcnt ef ey eMx hPA hch
            subst ef
            subst ey
            have hi57 : i < 1 := by omega
            have hA := eMx
            refine x_iload (pc := 57) C 0 dX9_readLevel_57 rfl ?_
            refine x_iload (pc := 59) C 1 dX9_readLevel_59 rfl ?_
            refine x_icmp_ge_f (pc := 61) C 112 dX9_readLevel_61 (by decide) (nI_ge (by omega) (by decide)) ?_
            refine x_iload_n (pc := 64) C 2 dX9_readLevel_64 rfl ?_
            refine x_ifb_eq (pc := 65) C 112 dX9_readLevel_65 (by decide) (fun h65 => ?_) (fun h65 => ?_)
            · refine x_iload_n (pc := 112) C 2 dX9_readLevel_112 rfl ?_
              exact x_bret (pc := 113) C X (b := A.1) rfl dX9_readLevel_113 (by rw [← hch, chn, if_pos (Or.inl h65)]; exact ⟨by rw [h65], eMx⟩)
            · refine x_aload_n (pc := 68) C 3 dX9_readLevel_68 rfl ?_
              refine x_iload_n (pc := 69) C 4 dX9_readLevel_69 rfl ?_
              refine x_callV (pc := 70) C E [.int (nI (4 - m))] [] (c_X9_stepOn t Mx hA.2.1.2.2.1 (l := 4 - m) (by omega)) m_X9_stepOn q10_6 xo_Tape rfl (by omega) (Nat.le_of_ble_eq_true rfl) dX9_readLevel_70 rfl (k_I ?_)
              refine x_iconst (pc := 73) (v := (-1)) C dX9_readLevel_73 rfl ?_
              refine x_icmp_eq (pc := 74) C 112 dX9_readLevel_74 (by decide) (fun h74 => ?_) (fun h74 => ?_)
              · refine x_iload_n (pc := 112) C 2 dX9_readLevel_112 rfl ?_
                exact x_bret (pc := 113) C X (b := A.1) rfl dX9_readLevel_113 (by rw [← hch, chn, if_pos (Or.inr h74)]; exact ⟨rfl, eMx⟩)
              · refine x_aload_n (pc := 77) C 3 dX9_readLevel_77 rfl ?_
                refine x_iload_n (pc := 78) C 4 dX9_readLevel_78 rfl ?_
                refine x_callV (pc := 79) C E [.int (nI (4 - m))] [] (c_X9_stepOn t Mx hA.2.1.2.2.1 (l := 4 - m) (by omega)) m_X9_stepOn q10_6 xo_Tape rfl (by omega) (Nat.le_of_ble_eq_true rfl) dX9_readLevel_79 rfl (k_I ?_)
                refine x_istore (pc := 82) (L' := [(6, .int (stp (4 - m) (tkK Y n A.2.1))), (5, .int (nI i)), (4, .int (nI 1)), (3, .int (b2i A.1)), (0, .ref (t.1 5)), (1, .int (nI (4 - m))), (2, .int (nI (5 - g)))]) C dX9_readLevel_82 (by decide) rfl ?_
                refine x_aload_n (pc := 84) C 4 dX9_readLevel_84 rfl ?_
                have ha85 := tk_adv (Y := Y) hPA.1 (stp_j h74).2
                refine x_callV (pc := 85) C E [] [] (c_X9_advance t _ hX hv hA.1 (x := tkE Y n (A.2.1)) hA.2.1.2.1 ha85.2) m_X9_advance q8_12 xo_Tape rfl (by omega) (Nat.le_of_ble_eq_true rfl) dX9_readLevel_85 rfl (fun r M85 hc85 => ?_)
                obtain ⟨rfl, hk85, hf85⟩ := hc85
                show XV κ (xP (wC t) M85) 88 _ []
                have hT85 := ty_fr hA.1 hf85
                refine x_aload_n (pc := 88) C 4 dX9_readLevel_88 rfl ?_
                refine x_iload_n (pc := 89) C 5 dX9_readLevel_89 rfl ?_
                refine x_iconst (pc := 90) (v := (nI 1)) C dX9_readLevel_90 (by decide) ?_
                refine x_iadd (pc := 91) C dX9_readLevel_91 ?_
                refine x_eq (show (nI (4 - m)) + (nI 1) = nI (5 - m) from (by rw [nI_add]; congr 1; omega)) ?_
                refine x_iload_n (pc := 92) C 6 dX9_readLevel_92 rfl ?_
                refine x_callV (pc := 93) C E [.int (nI (5 - m)), .int (nI (5 - g))] [] (hSub _ (z ++ A.2.2.1) (tkE Y n (A.2.1)) hT85 hk85 (sl_fr (hA.2.2.2.1 h65) hf85) (by rw [List.length_append]; have h1 := (hPA.2 h65).1; have h2 := ha85; omega) ha85.2) m_X9_readLevel q9_20 xo_Tape rfl (by omega) (Nat.le_of_ble_eq_true rfl) dX9_readLevel_93 rfl (fun r M93 hc93 => ?_)
                obtain ⟨rfl, hP93⟩ := hc93
                show XV κ (xP (wC t) M93) 96 _ [.int (b2i (lev Y n g0 sub m (tkE Y n (A.2.1))).1)]
                refine x_istore_n (pc := 96) (L' := [(3, .int (b2i (lev Y n g0 sub m (tkE Y n (A.2.1))).1)), (6, .int (stp (4 - m) (tkK Y n A.2.1))), (5, .int (nI i)), (4, .int (nI 1)), (0, .ref (t.1 5)), (1, .int (nI (4 - m))), (2, .int (nI (5 - g)))]) C dX9_readLevel_96 (by decide) rfl ?_
                refine x_aload_n (pc := 97) C 4 dX9_readLevel_97 rfl ?_
                refine g_Tape_rule (pc := 98) C E q3_14 dX9_readLevel_98 ?_
                refine x_iload (pc := 101) C 1 dX9_readLevel_101 rfl ?_
                obtain ⟨j103, hj103, ej103⟩ := hP93.2.2.1
                refine x_callV (pc := 103) C E [.int (stp (4 - m) (tkK Y n A.2.1))] [] (c_X6_add t _ (q := 6) (by decide) ej103 hj103 _) m_X6_add q10_10 (xo_Rule (q := 6) (by decide)) rfl (by omega) (Nat.le_of_ble_eq_true rfl) dX9_readLevel_103 rfl (k_U ?_)
                refine x_M (M' := adM M93 j103 (stp (4 - m) (tkK Y n A.2.1))) rfl ?_
                refine x_iinc (pc := 106) (v := nI (i + 1)) (L' := [(5, .int (nI (i + 1))), (3, .int (b2i (lev Y n g0 sub m (tkE Y n (A.2.1))).1)), (6, .int (stp (4 - m) (tkK Y n A.2.1))), (4, .int (nI 1)), (0, .ref (t.1 5)), (1, .int (nI (4 - m))), (2, .int (nI (5 - g)))]) C 2 dX9_readLevel_106 rfl (nI_1 _) (by decide) rfl ?_
                refine x_goto (pc := 109) C 57 dX9_readLevel_109 (by decide) ?_
                refine x_sub [0, 3, 1, 4, 5, 6] rfl ?_
                have hPJ := PG_jn (Y := Y) (l := 4 - m) hPGm hPA h65 h74
                have hCN : chn Y n (4 - m) (lev Y n g0 sub m) (k + 1) A = chn Y n (4 - m) (lev Y n g0 sub m) k (pJn (stp (4 - m) (tkK Y n A.2.1)) A (lev Y n g0 sub m (tkE Y n A.2.1))) := by rw [chn, if_neg (fun e => e.elim (fun e => by rw [h65] at e; cases e) h74)]
                refine ih (i + 1) _ _ _ (pJn (stp (4 - m) (tkK Y n A.2.1)) A (lev Y n g0 sub m (tkE Y n A.2.1))) (by omega) rfl rfl ?_ hPJ (by rw [← hch, hCN])
                have hp := pm_add (R' := (pJn (stp (4 - m) (tkK Y n A.2.1)) A (lev Y n g0 sub m (tkE Y n A.2.1))).1 |> fun b => (b, (lev Y n g0 sub m (tkE Y n A.2.1)).2.1, (lev Y n g0 sub m (tkE Y n A.2.1)).2.2.1 ++ [(stp (4 - m) (tkK Y n A.2.1))], (lev Y n g0 sub m (tkE Y n A.2.1)).2.2.2)) (s := (stp (4 - m) (tkK Y n A.2.1))) hP93 hj103 ej103 rfl rfl rfl (fun hr => by rw [List.length_append]; have h1 := (hPA.2 h65).1; have h2 := ha85; have h3 := ((hPGm _ ha85.2).2 hr).1; have h4 := (hPGm _ ha85.2).1; omega)
                exact ⟨hp.1, hp.2.1, hp.2.2.1, fun hr => by have h5 := hp.2.2.2.1 hr; rw [List.append_assoc] at h5; show Sl (z ++ (A.2.2.1 ++ (lev Y n g0 sub m (tkE Y n A.2.1)).2.2.1 ++ [(stp (4 - m) (tkK Y n A.2.1))])) _; rw [List.append_assoc]; exact h5, (hA.2.2.2.2.tr (Tf.a hf85)).tr hp.2.2.2.2⟩
      refine x_sub [0, 1, 2, 3, 4, 5] rfl ?_
      exact loop57 1 0 _ _ _ (lev Y n g0 sub m x) (by omega) rfl rfl hP36 ⟨hPG0.1, fun hr => ⟨(hPG0.2 hr).1, (hPG0.2 hr).2.1, PE_up (hPG0.2 hr).2.2 (by omega)⟩⟩ (by rw [lev, if_neg (fun e => h22 e.2), if_pos hm])
    · refine x_aload_n (pc := 25) C 0 dX9_readLevel_25 rfl ?_
      refine x_iload_n (pc := 26) C 2 dX9_readLevel_26 rfl ?_
      refine x_callV (pc := 27) C E [.int (nI (5 - g))] [] (hDen _ z x hT hTk hS hzx hxn h22) m_X9_readDenied q10_3 xo_Tape rfl (by omega) (Nat.le_of_ble_eq_true rfl) dX9_readLevel_27 rfl (fun r M27 hc27 => ?_)
      obtain ⟨rfl, hP27⟩ := hc27
      show XV κ (xP (wC t) M27) 30 _ [.int (b2i (if g0 = true then pzF x else pDen (sub 3 (tkE Y n x))).1)]
      exact x_bret (pc := 30) C X (b := (if g0 = true then pzF x else pDen (sub 3 (tkE Y n x))).1) rfl dX9_readLevel_30 (by rw [lev, if_pos ⟨hm, h22⟩]; exact ⟨rfl, hP27⟩)

