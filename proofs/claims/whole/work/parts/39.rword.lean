def nmO (A : MM) : Nat → Int32 := nm6 (A 0 13) (A 0 14) (A 0 15) (A 0 16) (A 0 17) (A 0 18)
def PRm (Y : Nat → Int32) (n op : Nat) (R : PR) (w : Int32) (A B : MM) : Prop := Sp A B ∧ (R.1 = true → w = R.2.2.2 (nmO A) ∧ TkR Y n R.2.1 B ∧ B 0 25 = nI op ∧ B 0 26 = 0) ∧ (R.1 = false → B 0 26 = 1 ∧ B 0 27 = nI (tkP Y n R.2.1))
def PRf (Y : Nat → Int32) (n op : Nat) (R : PR) (A : MM) : XF := fun r B => ∃ w : Int32, r = some (.int w) ∧ PRm Y n op R w A B
/-- the letters of word j, 0 behind them -/
def wlt (j i : Nat) : Nat := (([[116, 97, 107, 101, 115], [103, 111, 101, 115], [119, 111, 114, 116, 104], [111, 114], [97, 110, 100], [110, 111, 116], [104, 101, 114, 101], [116, 104, 101, 114, 101], [115, 97, 109, 101], [110, 117, 109, 98, 101, 114], [102, 105, 108, 101], [100, 97, 121]] : List (List Nat)).getD j []).getD i 0
theorem wlt_ok : ∀ j, j < 12 → (wln j ≤ 8 ∧ ∀ i, i < 8 → ((i < wln j → nI (wlt j i) = wbB (wst j + i) ∧ ¬ nI (wlt j i) = 0) ∧ (wln j ≤ i → nI (wlt j i) = 0))) := by decide +kernel
def wlT (Y : Nat → Int32) (p e j i : Nat) : Bool := if p + i < e then decide (Y (p + i) = nI (wlt j i)) else decide (nI (wlt j i) = 0)
theorem wl_f {Y : Nat → Int32} {p e j i : Nat} (hj : j < 12) (hi : i < 8) (h : wlT Y p e j i = false) : wis Y p e j = false := by
  cases g : wis Y p e j with
  | false => rfl
  | true =>
    obtain ⟨h1, h2⟩ := wis_iff.mp g
    obtain ⟨o1, o2⟩ := wlt_ok j hj
    unfold wlT at h
    by_cases c : i < wln j
    · rw [if_pos (by omega), decide_eq_true (by rw [((o2 i hi).1 c).1]; exact (h2 i c).symm)] at h
      cases h
    · rw [if_neg (by omega), decide_eq_true ((o2 i hi).2 (by omega))] at h
      cases h
theorem wl_8 {Y : Nat → Int32} {p e j : Nat} (hj : j < 12) (h : p + 8 < e) : wis Y p e j = false := by
  cases g : wis Y p e j with
  | false => rfl
  | true =>
    obtain ⟨h1, h2⟩ := wis_iff.mp g
    have := (wlt_ok j hj).1
    omega
theorem wl_t {Y : Nat → Int32} {p e j : Nat} (hj : j < 12) (hpe : p ≤ e) (he : e ≤ p + 8) (hl : ∀ k, p ≤ k → k < e → cLet (Y k) = true) (h : ∀ i, i < 8 → wlT Y p e j i = true) : wis Y p e j = true := by
  obtain ⟨o1, o2⟩ := wlt_ok j hj
  have key : e = p + wln j := by
    rcases Nat.lt_trichotomy e (p + wln j) with g | g | g
    · have h1 := h (e - p) (by omega)
      unfold wlT at h1
      rw [if_neg (by omega)] at h1
      exact absurd (of_decide_eq_true h1) ((o2 (e - p) (by omega)).1 (by omega)).2
    · exact g
    · have h1 := h (wln j) (by omega)
      unfold wlT at h1
      rw [if_pos (by omega)] at h1
      have h2 := hl (p + wln j) (by omega) (by omega)
      rw [of_decide_eq_true h1, (o2 (wln j) (by omega)).2 (Nat.le_refl _)] at h2
      exact absurd h2 (by decide)
  refine wis_iff.mpr ⟨key, fun i hi => ?_⟩
  have h1 := h i (by omega)
  unfold wlT at h1
  rw [if_pos (by omega)] at h1
  rw [← ((o2 i (by omega)).1 hi).1]
  exact (of_decide_eq_true h1).symm
theorem t64 {a b : Int32} (h : Int32.toInt64 a = Int32.toInt64 b) : a = b := by
  apply Int32.toInt_inj.mp
  rw [← Int32.toInt_toInt64, ← Int32.toInt_toInt64 b, h]
theorem rt_1 {Y : Nat → Int32} {n x : Nat} (h : rtk Y n x = nI 1) : tkP Y n x < n ∧ cLet (Y (tkP Y n x)) = true := by
  unfold rtk at h
  split at h
  · exact absurd h (by decide)
  · split at h
    · rename_i h1 h2; exact ⟨by omega, h2⟩
    · split at h
      · split at h <;> exact absurd h (by decide)
      · split at h <;> exact absurd h (by decide)
theorem rt_lets {Y : Nat → Int32} {n x : Nat} (h : rtk Y n x = nI 1) {k : Nat} (h1 : tkP Y n x ≤ k) (h2 : k < tkE Y n x) : cLet (Y k) = true := by
  obtain ⟨a, b⟩ := rt_1 h
  rw [(tk_let a b).1] at h2
  exact rnT_all (P := tLe Y) h1 h2
set_option maxRecDepth 100000 in
set_option maxHeartbeats 800000 in
theorem c_X12_fail (t : CT) {M : MM} {p : Nat} (hp : M 0 23 = nI p) (h0 : M 0 26 = 0) : XMet (wR t) yX12_fail cX12_fail 1 none 1 [.ref (t.1 0)] M (rU (mu (mu M 0 26 1) 0 27 (nI p))) := by
  refine x_met RX12 (by decide) rfl (Nat.le_of_ble_eq_true rfl) (fun κ C X E => ?_)
  refine x_L (L' := [(0, .ref (t.1 0))]) rfl ?_
  refine x_aload_n (pc := 0) C 0 dX12_fail_0 rfl ?_
  refine g_M_bad (pc := 1) C E q15_11 dX12_fail_1 ?_
  refine x_eq (show M 0 26 = 0 from h0) ?_
  refine x_if_ne_f (pc := 4) C 20 dX12_fail_4 (by decide) (by decide) ?_
  refine x_aload_n (pc := 7) C 0 dX12_fail_7 rfl ?_
  refine x_iconst (pc := 8) (v := 1) C dX12_fail_8 rfl ?_
  refine p_M_bad (pc := 9) C E q15_11 ⟨rfl, rfl⟩ dX12_fail_9 ?_
  refine x_aload_n (pc := 12) C 0 dX12_fail_12 rfl ?_
  refine x_aload_n (pc := 13) C 0 dX12_fail_13 rfl ?_
  refine g_M_tokenAt (pc := 14) C E q15_17 dX12_fail_14 ?_
  refine x_eq (show (mu M 0 26 1) 0 23 = nI p from ((mu_k _ _ _ _ (by decide)).trans hp)) ?_
  refine p_M_fault (pc := 17) C E q16_20 dX12_fail_17 ?_
  exact x_vret (pc := 20) C X dX12_fail_20 ⟨rfl, rfl⟩

set_option maxRecDepth 100000 in
set_option maxHeartbeats 800000 in
theorem c_X12_fail_b (t : CT) {M : MM} (h0 : M 0 26 = 1) : XMet (wR t) yX12_fail cX12_fail 1 none 1 [.ref (t.1 0)] M (rU M) := by
  refine x_met RX12 (by decide) rfl (Nat.le_of_ble_eq_true rfl) (fun κ C X E => ?_)
  refine x_L (L' := [(0, .ref (t.1 0))]) rfl ?_
  refine x_aload_n (pc := 0) C 0 dX12_fail_0 rfl ?_
  refine g_M_bad (pc := 1) C E q15_11 dX12_fail_1 ?_
  refine x_eq (show M 0 26 = 1 from h0) ?_
  refine x_if_ne_t (pc := 4) C 20 dX12_fail_4 (by decide) (by decide) ?_
  exact x_vret (pc := 20) C X dX12_fail_20 ⟨rfl, rfl⟩

set_option maxRecDepth 100000 in
set_option maxHeartbeats 800000 in
theorem c_X12_isSign (t : CT) {M : MM} {Y : Nat → Int32} {n x : Nat} (hT : TkR Y n x M) (h0 : M 0 26 = 0) {s : Nat} (hs : cSgn (nI s) = true) : XMet (wR t) yX12_isSign cX12_isSign 2 (some .boolean) 1 [.ref (t.1 0), .int (nI s)] M (rI (b2i (decide (tkK Y n x = nI s))) M) := by
  refine x_met RX12 (by decide) rfl (Nat.le_of_ble_eq_true rfl) (fun κ C X E => ?_)
  refine x_L (L' := [(0, .ref (t.1 0)), (1, .int (nI s))]) rfl ?_
  refine x_aload_n (pc := 0) C 0 dX12_isSign_0 rfl ?_
  refine g_M_bad (pc := 1) C E q15_11 dX12_isSign_1 ?_
  refine x_eq (show M 0 26 = 0 from h0) ?_
  refine x_if_ne_f (pc := 4) C 29 dX12_isSign_4 (by decide) (by decide) ?_
  refine x_aload_n (pc := 7) C 0 dX12_isSign_7 rfl ?_
  refine g_M_token (pc := 8) C E q15_12 dX12_isSign_8 ?_
  refine x_eq (show M 0 22 = rtk Y n x from hT.2.1) ?_
  refine x_iconst (pc := 11) (v := (nI 3)) C dX12_isSign_11 (by decide) ?_
  refine x_icmp_ne (pc := 12) C 29 dX12_isSign_12 (by decide) (fun h12 => ?_) (fun h12 => ?_)
  · refine x_iconst (pc := 29) (v := (nI 0)) C dX12_isSign_29 (by decide) ?_
    exact x_bret (pc := 30) C X (b := false) rfl dX12_isSign_30 (rI_b (Eq.symm (decide_eq_false (fun e => h12 ((rt_sign hs).mp e).1))))
  · refine x_aload_n (pc := 15) C 0 dX12_isSign_15 rfl ?_
    refine g_M_tokenWorth (pc := 16) C E q15_22 dX12_isSign_16 ?_
    refine x_eqL (show (M 0 24).toInt64 = Int32.toInt64 (Y (tkP Y n x)) from (by rw [hT.2.2.2.2 h12])) ?_
    refine x_iload_n (pc := 19) C 1 dX12_isSign_19 rfl ?_
    refine x_i2l (pc := 20) C dX12_isSign_20 ?_
    refine x_lcmp (pc := 21) C dX12_isSign_21 ?_
    refine x_if_ne (pc := 22) C 29 dX12_isSign_22 (by decide) (fun h22 => ?_) (fun h22 => ?_)
    · refine x_iconst (pc := 29) (v := (nI 0)) C dX12_isSign_29 (by decide) ?_
      exact x_bret (pc := 30) C X (b := false) rfl dX12_isSign_30 (rI_b (Eq.symm (decide_eq_false (fun e => h22 ((lg_cmp_eq _ _).mpr (by rw [((rt_sign hs).mp e).2]))))))
    · refine x_iconst (pc := 25) (v := (nI 1)) C dX12_isSign_25 (by decide) ?_
      refine x_goto (pc := 26) C 30 dX12_isSign_26 (by decide) ?_
      exact x_bret (pc := 30) C X (b := true) rfl dX12_isSign_30 (rI_b (Eq.symm (decide_eq_true ((rt_sign hs).mpr ⟨h12, t64 ((lg_cmp_eq _ _).mp h22)⟩))))

set_option maxRecDepth 100000 in
set_option maxHeartbeats 800000 in
theorem c_X12_isSign_b (t : CT) {M : MM} (h0 : M 0 26 = 1) (s : Int32) : XMet (wR t) yX12_isSign cX12_isSign 2 (some .boolean) 1 [.ref (t.1 0), .int s] M (rI (b2i false) M) := by
  refine x_met RX12 (by decide) rfl (Nat.le_of_ble_eq_true rfl) (fun κ C X E => ?_)
  refine x_L (L' := [(0, .ref (t.1 0)), (1, .int s)]) rfl ?_
  refine x_aload_n (pc := 0) C 0 dX12_isSign_0 rfl ?_
  refine g_M_bad (pc := 1) C E q15_11 dX12_isSign_1 ?_
  refine x_eq (show M 0 26 = 1 from h0) ?_
  refine x_if_ne_t (pc := 4) C 29 dX12_isSign_4 (by decide) (by decide) ?_
  refine x_iconst (pc := 29) (v := (nI 0)) C dX12_isSign_29 (by decide) ?_
  exact x_bret (pc := 30) C X (b := false) rfl dX12_isSign_30 ⟨rfl, rfl⟩

set_option maxRecDepth 100000 in
set_option maxHeartbeats 800000 in
theorem c_X12_isLetter (t : CT) {M : MM} {Y : Nat → Int32} {n q : Nat} (hR : TR Y n q M) {p e i : Nat} (hp : M 0 23 = nI p) (he : M 0 21 = nI e) (hpn : p ≤ n) (hen : e ≤ n) (hi : i < 8) (c : Int32) : XMet (wR t) yX12_isLetter cX12_isLetter 3 (some .boolean) 2 [.ref (t.1 0), .int (nI i), .int c] M (rI (b2i (if p + i < e then decide (Y (p + i) = c) else decide (c = 0))) M) := by
  refine x_met RX12 (by decide) rfl (Nat.le_of_ble_eq_true rfl) (fun κ C X E => ?_)
  refine x_L (L' := [(0, .ref (t.1 0)), (1, .int (nI i)), (2, .int c)]) rfl ?_
  have h160 := hR.1
  have hq6 := hR.2.1
  refine x_aload_n (pc := 0) C 0 dX12_isLetter_0 rfl ?_
  refine g_M_tokenAt (pc := 1) C E q15_17 dX12_isLetter_1 ?_
  refine x_eq (show M 0 23 = nI p from hp) ?_
  refine x_iload_n (pc := 4) C 1 dX12_isLetter_4 rfl ?_
  refine x_iadd (pc := 5) C dX12_isLetter_5 ?_
  refine x_eq (show (nI p) + (nI i) = nI (p + i) from nI_add _ _) ?_
  refine x_aload_n (pc := 6) C 0 dX12_isLetter_6 rfl ?_
  refine g_M_here (pc := 7) C E q15_9 dX12_isLetter_7 ?_
  refine x_eq (show M 0 21 = nI e from he) ?_
  refine x_icmp_ge (pc := 10) C 35 dX12_isLetter_10 (by decide) (fun h10 => ?_) (fun h10 => ?_)
  · have hlt : ¬ p + i < e := fun g => absurd h10 (nI_ge g (by omega))
    refine x_iload_n (pc := 35) C 2 dX12_isLetter_35 rfl ?_
    refine x_if_ne (pc := 36) C 43 dX12_isLetter_36 (by decide) (fun h36 => ?_) (fun h36 => ?_)
    · refine x_iconst (pc := 43) (v := (nI 0)) C dX12_isLetter_43 (by decide) ?_
      exact x_bret (pc := 44) C X (b := false) rfl dX12_isLetter_44 (rI_b (Eq.symm (by rw [if_neg hlt, decide_eq_false h36])))
    · refine x_iconst (pc := 39) (v := (nI 1)) C dX12_isLetter_39 (by decide) ?_
      refine x_goto (pc := 40) C 44 dX12_isLetter_40 (by decide) ?_
      exact x_bret (pc := 44) C X (b := true) rfl dX12_isLetter_44 (rI_b (Eq.symm (by rw [if_neg hlt, decide_eq_true h36])))
  · have hlt : p + i < e := Nat.lt_of_not_le (fun g => h10 (nI_le g (by omega)))
    refine x_aload_n (pc := 13) C 0 dX12_isLetter_13 rfl ?_
    refine x_aload_n (pc := 14) C 0 dX12_isLetter_14 rfl ?_
    refine g_M_tokenAt (pc := 15) C E q15_17 dX12_isLetter_15 ?_
    refine x_eq (show M 0 23 = nI p from hp) ?_
    refine x_iload_n (pc := 18) C 1 dX12_isLetter_18 rfl ?_
    refine x_iadd (pc := 19) C dX12_isLetter_19 ?_
    refine x_eq (show (nI p) + (nI i) = nI (p + i) from nI_add _ _) ?_
    refine x_callV (pc := 20) C E [.int (nI (p + i))] [] (c_X12_byteAt t (M := M) hR (x := p + i) (by omega)) m_X12_byteAt q16_0 xo_M rfl (by decide) (Nat.le_of_ble_eq_true rfl) dX12_isLetter_20 rfl (k_I ?_)
    refine x_eq (show bA Y n (p + i) = Y (p + i) from (by unfold bA; rw [if_pos (by omega)])) ?_
    refine x_iload_n (pc := 23) C 2 dX12_isLetter_23 rfl ?_
    refine x_icmp_ne (pc := 24) C 31 dX12_isLetter_24 (by decide) (fun h24 => ?_) (fun h24 => ?_)
    · refine x_iconst (pc := 31) (v := (nI 0)) C dX12_isLetter_31 (by decide) ?_
      refine x_goto (pc := 32) C 44 dX12_isLetter_32 (by decide) ?_
      exact x_bret (pc := 44) C X (b := false) rfl dX12_isLetter_44 (rI_b (Eq.symm (by rw [if_pos hlt, decide_eq_false h24])))
    · refine x_iconst (pc := 27) (v := (nI 1)) C dX12_isLetter_27 (by decide) ?_
      refine x_goto (pc := 28) C 44 dX12_isLetter_28 (by decide) ?_
      exact x_bret (pc := 44) C X (b := true) rfl dX12_isLetter_44 (rI_b (Eq.symm (by rw [if_pos hlt, decide_eq_true h24])))

set_option maxRecDepth 100000 in
set_option maxHeartbeats 800000 in
theorem c_X12_isWord (t : CT) {M : MM} {Y : Nat → Int32} {n q : Nat} (hR : TR Y n q M) {x : Nat} (hT : TkR Y n x M) (h0 : M 0 26 = 0) (hxn : x ≤ n) {j : Nat} (hj : j < 12) : XMet (wR t) yX12_isWord cX12_isWord 9 (some .boolean) 3 [.ref (t.1 0), .int (nI (wlt j 0)), .int (nI (wlt j 1)), .int (nI (wlt j 2)), .int (nI (wlt j 3)), .int (nI (wlt j 4)), .int (nI (wlt j 5)), .int (nI (wlt j 6)), .int (nI (wlt j 7))] M (rI (b2i (decide (rtk Y n x = nI 1) && wis Y (tkP Y n x) (tkE Y n x) j)) M) := by
  refine x_met RX12 (by decide) rfl (Nat.le_of_ble_eq_true rfl) (fun κ C X E => ?_)
  refine x_L (L' := [(0, .ref (t.1 0)), (1, .int (nI (wlt j 0))), (2, .int (nI (wlt j 1))), (3, .int (nI (wlt j 2))), (4, .int (nI (wlt j 3))), (5, .int (nI (wlt j 4))), (6, .int (nI (wlt j 5))), (7, .int (nI (wlt j 6))), (8, .int (nI (wlt j 7)))]) rfl ?_
  have h160 := hR.1
  have hq6 := hR.2.1
  refine x_aload_n (pc := 0) C 0 dX12_isWord_0 rfl ?_
  refine g_M_bad (pc := 1) C E q15_11 dX12_isWord_1 ?_
  refine x_eq (show M 0 26 = 0 from h0) ?_
  refine x_if_ne_f (pc := 4) C 112 dX12_isWord_4 (by decide) (by decide) ?_
  refine x_aload_n (pc := 7) C 0 dX12_isWord_7 rfl ?_
  refine g_M_token (pc := 8) C E q15_12 dX12_isWord_8 ?_
  refine x_eq (show M 0 22 = rtk Y n x from hT.2.1) ?_
  refine x_iconst (pc := 11) (v := (nI 1)) C dX12_isWord_11 (by decide) ?_
  refine x_icmp_ne (pc := 12) C 112 dX12_isWord_12 (by decide) (fun h12 => ?_) (fun h12 => ?_)
  · refine x_iconst (pc := 112) (v := (nI 0)) C dX12_isWord_112 (by decide) ?_
    exact x_bret (pc := 113) C X (b := false) rfl dX12_isWord_113 (rI_b (Eq.symm (by rw [decide_eq_false h12]; rfl)))
  · have hlt := (rt_1 h12).1
    have hE := tkE_lt (Y := Y) hxn hlt
    have he : M 0 21 = nI (tkE Y n x) := hT.2.2.1 (by rw [h12]; decide)
    refine x_aload_n (pc := 15) C 0 dX12_isWord_15 rfl ?_
    refine g_M_here (pc := 16) C E q15_9 dX12_isWord_16 ?_
    refine x_eq (show M 0 21 = nI (tkE Y n x) from he) ?_
    refine x_aload_n (pc := 19) C 0 dX12_isWord_19 rfl ?_
    refine g_M_tokenAt (pc := 20) C E q15_17 dX12_isWord_20 ?_
    refine x_eq (show M 0 23 = nI (tkP Y n x) from hT.1) ?_
    refine x_bipush (pc := 23) (v := (nI 8)) C dX12_isWord_23 (by decide) ?_
    refine x_iadd (pc := 25) C dX12_isWord_25 ?_
    refine x_eq (show (nI (tkP Y n x)) + (nI 8) = nI (tkP Y n x + 8) from nI_add _ _) ?_
    refine x_icmp_gt (pc := 26) C 112 dX12_isWord_26 (by decide) (fun h26 => ?_) (fun h26 => ?_)
    · refine x_iconst (pc := 112) (v := (nI 0)) C dX12_isWord_112 (by decide) ?_
      exact x_bret (pc := 113) C X (b := false) rfl dX12_isWord_113 (rI_b (Eq.symm (by rw [wl_8 hj (Nat.lt_of_not_le (fun g => absurd (nI_le g (by omega)) (by rw [Int32.not_le]; exact h26)))]; exact Bool.and_false _)))
    · have hle : tkE Y n x ≤ tkP Y n x + 8 := Nat.le_of_not_lt (fun g => h26 (nI_lt g (by omega)))
      refine x_aload_n (pc := 29) C 0 dX12_isWord_29 rfl ?_
      refine x_iconst (pc := 30) (v := (nI 0)) C dX12_isWord_30 (by decide) ?_
      refine x_iload_n (pc := 31) C 1 dX12_isWord_31 rfl ?_
      refine x_callV (pc := 32) C E [.int (nI 0), .int (nI (wlt j 0))] [] (c_X12_isLetter t hR hT.1 he (by omega) (by omega) (i := 0) (by decide) (nI (wlt j 0))) m_X12_isLetter q16_8 xo_M rfl (by decide) (Nat.le_of_ble_eq_true rfl) dX12_isWord_32 rfl (k_I ?_)
      show XV κ (xP (wR t) M) 35 _ [.int (b2i (wlT Y (tkP Y n x) (tkE Y n x) j 0))]
      refine x_ifb_eq (pc := 35) C 112 dX12_isWord_35 (by decide) (fun h35 => ?_) (fun h35 => ?_)
      · refine x_iconst (pc := 112) (v := (nI 0)) C dX12_isWord_112 (by decide) ?_
        exact x_bret (pc := 113) C X (b := false) rfl dX12_isWord_113 (rI_b (Eq.symm (by rw [wl_f hj (i := 0) (by decide) h35]; exact Bool.and_false _)))
      · refine x_aload_n (pc := 38) C 0 dX12_isWord_38 rfl ?_
        refine x_iconst (pc := 39) (v := (nI 1)) C dX12_isWord_39 (by decide) ?_
        refine x_iload_n (pc := 40) C 2 dX12_isWord_40 rfl ?_
        refine x_callV (pc := 41) C E [.int (nI 1), .int (nI (wlt j 1))] [] (c_X12_isLetter t hR hT.1 he (by omega) (by omega) (i := 1) (by decide) (nI (wlt j 1))) m_X12_isLetter q16_8 xo_M rfl (by decide) (Nat.le_of_ble_eq_true rfl) dX12_isWord_41 rfl (k_I ?_)
        show XV κ (xP (wR t) M) 44 _ [.int (b2i (wlT Y (tkP Y n x) (tkE Y n x) j 1))]
        refine x_ifb_eq (pc := 44) C 112 dX12_isWord_44 (by decide) (fun h44 => ?_) (fun h44 => ?_)
        · refine x_iconst (pc := 112) (v := (nI 0)) C dX12_isWord_112 (by decide) ?_
          exact x_bret (pc := 113) C X (b := false) rfl dX12_isWord_113 (rI_b (Eq.symm (by rw [wl_f hj (i := 1) (by decide) h44]; exact Bool.and_false _)))
        · refine x_aload_n (pc := 47) C 0 dX12_isWord_47 rfl ?_
          refine x_iconst (pc := 48) (v := (nI 2)) C dX12_isWord_48 (by decide) ?_
          refine x_iload_n (pc := 49) C 3 dX12_isWord_49 rfl ?_
          refine x_callV (pc := 50) C E [.int (nI 2), .int (nI (wlt j 2))] [] (c_X12_isLetter t hR hT.1 he (by omega) (by omega) (i := 2) (by decide) (nI (wlt j 2))) m_X12_isLetter q16_8 xo_M rfl (by decide) (Nat.le_of_ble_eq_true rfl) dX12_isWord_50 rfl (k_I ?_)
          show XV κ (xP (wR t) M) 53 _ [.int (b2i (wlT Y (tkP Y n x) (tkE Y n x) j 2))]
          refine x_ifb_eq (pc := 53) C 112 dX12_isWord_53 (by decide) (fun h53 => ?_) (fun h53 => ?_)
          · refine x_iconst (pc := 112) (v := (nI 0)) C dX12_isWord_112 (by decide) ?_
            exact x_bret (pc := 113) C X (b := false) rfl dX12_isWord_113 (rI_b (Eq.symm (by rw [wl_f hj (i := 2) (by decide) h53]; exact Bool.and_false _)))
          · refine x_aload_n (pc := 56) C 0 dX12_isWord_56 rfl ?_
            refine x_iconst (pc := 57) (v := (nI 3)) C dX12_isWord_57 (by decide) ?_
            refine x_iload (pc := 58) C 4 dX12_isWord_58 rfl ?_
            refine x_callV (pc := 60) C E [.int (nI 3), .int (nI (wlt j 3))] [] (c_X12_isLetter t hR hT.1 he (by omega) (by omega) (i := 3) (by decide) (nI (wlt j 3))) m_X12_isLetter q16_8 xo_M rfl (by decide) (Nat.le_of_ble_eq_true rfl) dX12_isWord_60 rfl (k_I ?_)
            show XV κ (xP (wR t) M) 63 _ [.int (b2i (wlT Y (tkP Y n x) (tkE Y n x) j 3))]
            refine x_ifb_eq (pc := 63) C 112 dX12_isWord_63 (by decide) (fun h63 => ?_) (fun h63 => ?_)
            · refine x_iconst (pc := 112) (v := (nI 0)) C dX12_isWord_112 (by decide) ?_
              exact x_bret (pc := 113) C X (b := false) rfl dX12_isWord_113 (rI_b (Eq.symm (by rw [wl_f hj (i := 3) (by decide) h63]; exact Bool.and_false _)))
            · refine x_aload_n (pc := 66) C 0 dX12_isWord_66 rfl ?_
              refine x_iconst (pc := 67) (v := (nI 4)) C dX12_isWord_67 (by decide) ?_
              refine x_iload (pc := 68) C 5 dX12_isWord_68 rfl ?_
              refine x_callV (pc := 70) C E [.int (nI 4), .int (nI (wlt j 4))] [] (c_X12_isLetter t hR hT.1 he (by omega) (by omega) (i := 4) (by decide) (nI (wlt j 4))) m_X12_isLetter q16_8 xo_M rfl (by decide) (Nat.le_of_ble_eq_true rfl) dX12_isWord_70 rfl (k_I ?_)
              show XV κ (xP (wR t) M) 73 _ [.int (b2i (wlT Y (tkP Y n x) (tkE Y n x) j 4))]
              refine x_ifb_eq (pc := 73) C 112 dX12_isWord_73 (by decide) (fun h73 => ?_) (fun h73 => ?_)
              · refine x_iconst (pc := 112) (v := (nI 0)) C dX12_isWord_112 (by decide) ?_
                exact x_bret (pc := 113) C X (b := false) rfl dX12_isWord_113 (rI_b (Eq.symm (by rw [wl_f hj (i := 4) (by decide) h73]; exact Bool.and_false _)))
              · refine x_aload_n (pc := 76) C 0 dX12_isWord_76 rfl ?_
                refine x_iconst (pc := 77) (v := (nI 5)) C dX12_isWord_77 (by decide) ?_
                refine x_iload (pc := 78) C 6 dX12_isWord_78 rfl ?_
                refine x_callV (pc := 80) C E [.int (nI 5), .int (nI (wlt j 5))] [] (c_X12_isLetter t hR hT.1 he (by omega) (by omega) (i := 5) (by decide) (nI (wlt j 5))) m_X12_isLetter q16_8 xo_M rfl (by decide) (Nat.le_of_ble_eq_true rfl) dX12_isWord_80 rfl (k_I ?_)
                show XV κ (xP (wR t) M) 83 _ [.int (b2i (wlT Y (tkP Y n x) (tkE Y n x) j 5))]
                refine x_ifb_eq (pc := 83) C 112 dX12_isWord_83 (by decide) (fun h83 => ?_) (fun h83 => ?_)
                · refine x_iconst (pc := 112) (v := (nI 0)) C dX12_isWord_112 (by decide) ?_
                  exact x_bret (pc := 113) C X (b := false) rfl dX12_isWord_113 (rI_b (Eq.symm (by rw [wl_f hj (i := 5) (by decide) h83]; exact Bool.and_false _)))
                · refine x_aload_n (pc := 86) C 0 dX12_isWord_86 rfl ?_
                  refine x_bipush (pc := 87) (v := (nI 6)) C dX12_isWord_87 (by decide) ?_
                  refine x_iload (pc := 89) C 7 dX12_isWord_89 rfl ?_
                  refine x_callV (pc := 91) C E [.int (nI 6), .int (nI (wlt j 6))] [] (c_X12_isLetter t hR hT.1 he (by omega) (by omega) (i := 6) (by decide) (nI (wlt j 6))) m_X12_isLetter q16_8 xo_M rfl (by decide) (Nat.le_of_ble_eq_true rfl) dX12_isWord_91 rfl (k_I ?_)
                  show XV κ (xP (wR t) M) 94 _ [.int (b2i (wlT Y (tkP Y n x) (tkE Y n x) j 6))]
                  refine x_ifb_eq (pc := 94) C 112 dX12_isWord_94 (by decide) (fun h94 => ?_) (fun h94 => ?_)
                  · refine x_iconst (pc := 112) (v := (nI 0)) C dX12_isWord_112 (by decide) ?_
                    exact x_bret (pc := 113) C X (b := false) rfl dX12_isWord_113 (rI_b (Eq.symm (by rw [wl_f hj (i := 6) (by decide) h94]; exact Bool.and_false _)))
                  · refine x_aload_n (pc := 97) C 0 dX12_isWord_97 rfl ?_
                    refine x_bipush (pc := 98) (v := (nI 7)) C dX12_isWord_98 (by decide) ?_
                    refine x_iload (pc := 100) C 8 dX12_isWord_100 rfl ?_
                    refine x_callV (pc := 102) C E [.int (nI 7), .int (nI (wlt j 7))] [] (c_X12_isLetter t hR hT.1 he (by omega) (by omega) (i := 7) (by decide) (nI (wlt j 7))) m_X12_isLetter q16_8 xo_M rfl (by decide) (Nat.le_of_ble_eq_true rfl) dX12_isWord_102 rfl (k_I ?_)
                    show XV κ (xP (wR t) M) 105 _ [.int (b2i (wlT Y (tkP Y n x) (tkE Y n x) j 7))]
                    refine x_ifb_eq (pc := 105) C 112 dX12_isWord_105 (by decide) (fun h105 => ?_) (fun h105 => ?_)
                    · refine x_iconst (pc := 112) (v := (nI 0)) C dX12_isWord_112 (by decide) ?_
                      exact x_bret (pc := 113) C X (b := false) rfl dX12_isWord_113 (rI_b (Eq.symm (by rw [wl_f hj (i := 7) (by decide) h105]; exact Bool.and_false _)))
                    · refine x_iconst (pc := 108) (v := (nI 1)) C dX12_isWord_108 (by decide) ?_
                      refine x_goto (pc := 109) C 113 dX12_isWord_109 (by decide) ?_
                      exact x_bret (pc := 113) C X (b := true) rfl dX12_isWord_113 (rI_b (Eq.symm (by rw [decide_eq_true h12, wl_t hj (by omega) hle (fun k g1 g2 => rt_lets h12 g1 g2) (fun i hi => by rcases (by omega : i = 0 ∨ i = 1 ∨ i = 2 ∨ i = 3 ∨ i = 4 ∨ i = 5 ∨ i = 6 ∨ i = 7) with rfl | rfl | rfl | rfl | rfl | rfl | rfl | rfl; exact h35; exact h44; exact h53; exact h63; exact h73; exact h83; exact h94; exact h105)]; rfl)))

set_option maxRecDepth 100000 in
set_option maxHeartbeats 800000 in
theorem c_X12_isWord_b (t : CT) {M : MM} (h0 : M 0 26 = 1) (x1 x2 x3 x4 x5 x6 x7 x8 : Int32) : XMet (wR t) yX12_isWord cX12_isWord 9 (some .boolean) 1 [.ref (t.1 0), .int x1, .int x2, .int x3, .int x4, .int x5, .int x6, .int x7, .int x8] M (rI (b2i false) M) := by
  refine x_met RX12 (by decide) rfl (Nat.le_of_ble_eq_true rfl) (fun κ C X E => ?_)
  refine x_L (L' := [(0, .ref (t.1 0)), (1, .int x1), (2, .int x2), (3, .int x3), (4, .int x4), (5, .int x5), (6, .int x6), (7, .int x7), (8, .int x8)]) rfl ?_
  refine x_aload_n (pc := 0) C 0 dX12_isWord_0 rfl ?_
  refine g_M_bad (pc := 1) C E q15_11 dX12_isWord_1 ?_
  refine x_eq (show M 0 26 = 1 from h0) ?_
  refine x_if_ne_t (pc := 4) C 112 dX12_isWord_4 (by decide) (by decide) ?_
  refine x_iconst (pc := 112) (v := (nI 0)) C dX12_isWord_112 (by decide) ?_
  exact x_bret (pc := 113) C X (b := false) rfl dX12_isWord_113 ⟨rfl, rfl⟩

