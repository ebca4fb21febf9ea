/-! THE TAPE: how its tokens are read -/
/-- the tape's bytes -/
def TY (Y : Nat → Int32) (n : Nat) (M : MM) : Prop := n ≤ 160 ∧ M 5 2 = nI n ∧ ∀ k, k < n → M 6 k = Y k
theorem ty_fr {Y : Nat → Int32} {n : Nat} {M M' : MM} (h : TY Y n M) (hM : ∀ a b, (a ≠ 5 ∨ b < 3 ∨ 6 < b) → M' a b = M a b) : TY Y n M' := ⟨h.1, (hM _ _ (by omega)).trans h.2.1, fun k hk => (hM _ _ (by omega)).trans (h.2.2 k hk)⟩
/-- the token at hand is the one behind place x -/
def Tk (Y : Nat → Int32) (n x : Nat) (M : MM) : Prop := M 5 3 = nI (tkP Y n x) ∧ M 5 4 = nI (tkE Y n x) ∧ M 5 5 = tkK Y n x ∧ (tkK Y n x = 2 ∨ tkK Y n x = 3 → M 5 6 = tkV Y n x)
def wiA (w : Nat) : Int32 := if w < 12 then nI w else -1
theorem wiA_3 {w : Nat} (h : w ≤ 12) : (w < 6 ∧ wiA w = nI w) ∨ (6 ≤ w ∧ w < 12 ∧ wiA w = nI w) ∨ (w = 12 ∧ wiA w = -1) := by
  unfold wiA
  rcases (by omega : w < 6 ∨ (6 ≤ w ∧ w < 12) ∨ w = 12) with g | g | g
  · exact Or.inl ⟨g, if_pos (by omega)⟩
  · exact Or.inr (Or.inl ⟨g.1, g.2, if_pos g.2⟩)
  · exact Or.inr (Or.inr ⟨g, if_neg (by omega)⟩)
theorem wst_ok : ∀ j, j < 12 → wst j + wln j < 60 := by decide
theorem tk_end {Y : Nat → Int32} {n x : Nat} (h : n ≤ tkP Y n x) : tkE Y n x = tkP Y n x ∧ tkK Y n x = 0 := by
  unfold tkE tkK
  rw [if_pos h, if_pos h]
  exact ⟨rfl, rfl⟩
theorem tk_let {Y : Nat → Int32} {n x : Nat} (h : tkP Y n x < n) (h2 : cLet (Y (tkP Y n x)) = true) : tkE Y n x = rnT (tLe Y) n (tkP Y n x) ∧ tkK Y n x = wkK (wdx Y (tkP Y n x) (tkE Y n x)) ∧ tkV Y n x = nI (wdx Y (tkP Y n x) (tkE Y n x) - 6) := by
  refine ⟨?_, ?_, ?_⟩
  · unfold tkE; rw [if_neg (by omega), if_pos h2]
  · unfold tkK; rw [if_neg (by omega), if_pos h2]
  · unfold tkV; rw [if_pos h2]
theorem tk_dig {Y : Nat → Int32} {n x : Nat} (h : tkP Y n x < n) (h2 : cLet (Y (tkP Y n x)) = false) (h3 : cDig (Y (tkP Y n x)) = true) : tkE Y n x = rnT (tDi Y) n (tkP Y n x) ∧ tkK Y n x = (if 4 < tkE Y n x - tkP Y n x then 1 else 2) ∧ tkV Y n x = nvF Y (tkP Y n x) (tkE Y n x - tkP Y n x) := by
  have g2 : ¬ cLet (Y (tkP Y n x)) = true := by rw [h2]; decide
  refine ⟨?_, ?_, ?_⟩
  · unfold tkE; rw [if_neg (by omega), if_neg g2, if_pos h3]
  · unfold tkK; rw [if_neg (by omega), if_neg g2, if_pos h3]
  · unfold tkV; rw [if_neg g2]
theorem tk_sgn {Y : Nat → Int32} {n x : Nat} (h : tkP Y n x < n) (h2 : cLet (Y (tkP Y n x)) = false) (h3 : cDig (Y (tkP Y n x)) = false) : tkE Y n x = tkP Y n x + 1 ∧ tkK Y n x = (if cSgn (Y (tkP Y n x)) = true then Y (tkP Y n x) else 1) := by
  have g2 : ¬ cLet (Y (tkP Y n x)) = true := by rw [h2]; decide
  have g3 : ¬ cDig (Y (tkP Y n x)) = true := by rw [h3]; decide
  refine ⟨?_, ?_⟩
  · unfold tkE; rw [if_neg (by omega), if_neg g2, if_neg g3]
  · unfold tkK; rw [if_neg (by omega), if_neg g2, if_neg g3]
set_option maxRecDepth 100000 in
set_option maxHeartbeats 800000 in
theorem c_X9_isLetter (t : CT) (M : MM) (x : Int32) : XMet (wC t) yX9_isLetter cX9_isLetter 1 (some .boolean) 1 [.int x] M (rI (b2i (cLet x)) M) := by
  refine x_met RX9 (by decide) rfl (Nat.le_of_ble_eq_true rfl) (fun κ C X E => ?_)
  refine x_L (L' := [(0, .int x)]) rfl ?_
  have la : (97 : Int32).toInt = 97 := rfl
  have lb : (122 : Int32).toInt = 122 := rfl
  refine x_iload_n (pc := 0) C 0 dX9_isLetter_0 rfl ?_
  refine x_bipush (pc := 1) (v := 97) C dX9_isLetter_1 rfl ?_
  refine x_icmp_lt (pc := 3) C 16 dX9_isLetter_3 (by decide) (fun h3 => ?_) (fun h3 => ?_)
  · refine x_iconst (pc := 16) (v := 0) C dX9_isLetter_16 rfl ?_
    exact x_bret (pc := 17) C X (b := false) rfl dX9_isLetter_17 (rI_b (Eq.symm (by unfold cLet; exact decide_eq_false (by simp only [i_lt, i_le, la, lb] at h3 ⊢; omega))))
  · refine x_iload_n (pc := 6) C 0 dX9_isLetter_6 rfl ?_
    refine x_bipush (pc := 7) (v := 122) C dX9_isLetter_7 rfl ?_
    refine x_icmp_gt (pc := 9) C 16 dX9_isLetter_9 (by decide) (fun h9 => ?_) (fun h9 => ?_)
    · refine x_iconst (pc := 16) (v := 0) C dX9_isLetter_16 rfl ?_
      exact x_bret (pc := 17) C X (b := false) rfl dX9_isLetter_17 (rI_b (Eq.symm (by unfold cLet; exact decide_eq_false (by simp only [i_lt, i_le, la, lb] at h3 h9 ⊢; omega))))
    · refine x_iconst (pc := 12) (v := 1) C dX9_isLetter_12 rfl ?_
      refine x_goto (pc := 13) C 17 dX9_isLetter_13 (by decide) ?_
      exact x_bret (pc := 17) C X (b := true) rfl dX9_isLetter_17 (rI_b (Eq.symm (by unfold cLet; exact decide_eq_true (by simp only [i_lt, i_le, la, lb] at h3 h9 ⊢; omega))))

set_option maxRecDepth 100000 in
set_option maxHeartbeats 800000 in
theorem c_X9_isDigit (t : CT) (M : MM) (x : Int32) : XMet (wC t) yX9_isDigit cX9_isDigit 1 (some .boolean) 1 [.int x] M (rI (b2i (cDig x)) M) := by
  refine x_met RX9 (by decide) rfl (Nat.le_of_ble_eq_true rfl) (fun κ C X E => ?_)
  refine x_L (L' := [(0, .int x)]) rfl ?_
  have la : (48 : Int32).toInt = 48 := rfl
  have lb : (57 : Int32).toInt = 57 := rfl
  refine x_iload_n (pc := 0) C 0 dX9_isDigit_0 rfl ?_
  refine x_bipush (pc := 1) (v := 48) C dX9_isDigit_1 rfl ?_
  refine x_icmp_lt (pc := 3) C 16 dX9_isDigit_3 (by decide) (fun h3 => ?_) (fun h3 => ?_)
  · refine x_iconst (pc := 16) (v := 0) C dX9_isDigit_16 rfl ?_
    exact x_bret (pc := 17) C X (b := false) rfl dX9_isDigit_17 (rI_b (Eq.symm (by unfold cDig; exact decide_eq_false (by simp only [i_lt, i_le, la, lb] at h3 ⊢; omega))))
  · refine x_iload_n (pc := 6) C 0 dX9_isDigit_6 rfl ?_
    refine x_bipush (pc := 7) (v := 57) C dX9_isDigit_7 rfl ?_
    refine x_icmp_gt (pc := 9) C 16 dX9_isDigit_9 (by decide) (fun h9 => ?_) (fun h9 => ?_)
    · refine x_iconst (pc := 16) (v := 0) C dX9_isDigit_16 rfl ?_
      exact x_bret (pc := 17) C X (b := false) rfl dX9_isDigit_17 (rI_b (Eq.symm (by unfold cDig; exact decide_eq_false (by simp only [i_lt, i_le, la, lb] at h3 h9 ⊢; omega))))
    · refine x_iconst (pc := 12) (v := 1) C dX9_isDigit_12 rfl ?_
      refine x_goto (pc := 13) C 17 dX9_isDigit_13 (by decide) ?_
      exact x_bret (pc := 17) C X (b := true) rfl dX9_isDigit_17 (rI_b (Eq.symm (by unfold cDig; exact decide_eq_true (by simp only [i_lt, i_le, la, lb] at h3 h9 ⊢; omega))))

set_option maxRecDepth 100000 in
set_option maxHeartbeats 800000 in
theorem c_X9_isSign (t : CT) (M : MM) (x : Int32) : XMet (wC t) yX9_isSign cX9_isSign 1 (some .boolean) 1 [.int x] M (rI (b2i (cSgn x)) M) := by
  refine x_met RX9 (by decide) rfl (Nat.le_of_ble_eq_true rfl) (fun κ C X E => ?_)
  refine x_L (L' := [(0, .int x)]) rfl ?_
  refine x_iload_n (pc := 0) C 0 dX9_isSign_0 rfl ?_
  by_cases h9 : 40 ≤ x.toInt ∧ x.toInt ≤ 61
  · rcases (by omega : x.toInt = 40 ∨ x.toInt = 41 ∨ x.toInt = 42 ∨ x.toInt = 43 ∨ x.toInt = 44 ∨ x.toInt = 45 ∨ x.toInt = 46 ∨ x.toInt = 47 ∨ x.toInt = 48 ∨ x.toInt = 49 ∨ x.toInt = 50 ∨ x.toInt = 51 ∨ x.toInt = 52 ∨ x.toInt = 53 ∨ x.toInt = 54 ∨ x.toInt = 55 ∨ x.toInt = 56 ∨ x.toInt = 57 ∨ x.toInt = 58 ∨ x.toInt = 59 ∨ x.toInt = 60 ∨ x.toInt = 61) with h9 | h9 | h9 | h9 | h9 | h9 | h9 | h9 | h9 | h9 | h9 | h9 | h9 | h9 | h9 | h9 | h9 | h9 | h9 | h9 | h9 | h9
    · obtain rfl : x = 40 := i_eq.mpr h9
      refine x_tableIn (pc := 1) C 104 dX9_isSign_1 (by decide) (by decide) rfl (by decide) ?_
      refine x_iconst (pc := 104) (v := 1) C dX9_isSign_104 rfl ?_
      exact x_bret (pc := 105) C X (b := true) rfl dX9_isSign_105 (rI_b (by decide))
    · obtain rfl : x = 41 := i_eq.mpr h9
      refine x_tableIn (pc := 1) C 104 dX9_isSign_1 (by decide) (by decide) rfl (by decide) ?_
      refine x_iconst (pc := 104) (v := 1) C dX9_isSign_104 rfl ?_
      exact x_bret (pc := 105) C X (b := true) rfl dX9_isSign_105 (rI_b (by decide))
    · obtain rfl : x = 42 := i_eq.mpr h9
      refine x_tableIn (pc := 1) C 104 dX9_isSign_1 (by decide) (by decide) rfl (by decide) ?_
      refine x_iconst (pc := 104) (v := 1) C dX9_isSign_104 rfl ?_
      exact x_bret (pc := 105) C X (b := true) rfl dX9_isSign_105 (rI_b (by decide))
    · obtain rfl : x = 43 := i_eq.mpr h9
      refine x_tableIn (pc := 1) C 104 dX9_isSign_1 (by decide) (by decide) rfl (by decide) ?_
      refine x_iconst (pc := 104) (v := 1) C dX9_isSign_104 rfl ?_
      exact x_bret (pc := 105) C X (b := true) rfl dX9_isSign_105 (rI_b (by decide))
    · obtain rfl : x = 44 := i_eq.mpr h9
      refine x_tableIn (pc := 1) C 106 dX9_isSign_1 (by decide) (by decide) rfl (by decide) ?_
      refine x_iconst (pc := 106) (v := 0) C dX9_isSign_106 rfl ?_
      exact x_bret (pc := 107) C X (b := false) rfl dX9_isSign_107 (rI_b (by decide))
    · obtain rfl : x = 45 := i_eq.mpr h9
      refine x_tableIn (pc := 1) C 104 dX9_isSign_1 (by decide) (by decide) rfl (by decide) ?_
      refine x_iconst (pc := 104) (v := 1) C dX9_isSign_104 rfl ?_
      exact x_bret (pc := 105) C X (b := true) rfl dX9_isSign_105 (rI_b (by decide))
    · obtain rfl : x = 46 := i_eq.mpr h9
      refine x_tableIn (pc := 1) C 106 dX9_isSign_1 (by decide) (by decide) rfl (by decide) ?_
      refine x_iconst (pc := 106) (v := 0) C dX9_isSign_106 rfl ?_
      exact x_bret (pc := 107) C X (b := false) rfl dX9_isSign_107 (rI_b (by decide))
    · obtain rfl : x = 47 := i_eq.mpr h9
      refine x_tableIn (pc := 1) C 106 dX9_isSign_1 (by decide) (by decide) rfl (by decide) ?_
      refine x_iconst (pc := 106) (v := 0) C dX9_isSign_106 rfl ?_
      exact x_bret (pc := 107) C X (b := false) rfl dX9_isSign_107 (rI_b (by decide))
    · obtain rfl : x = 48 := i_eq.mpr h9
      refine x_tableIn (pc := 1) C 106 dX9_isSign_1 (by decide) (by decide) rfl (by decide) ?_
      refine x_iconst (pc := 106) (v := 0) C dX9_isSign_106 rfl ?_
      exact x_bret (pc := 107) C X (b := false) rfl dX9_isSign_107 (rI_b (by decide))
    · obtain rfl : x = 49 := i_eq.mpr h9
      refine x_tableIn (pc := 1) C 106 dX9_isSign_1 (by decide) (by decide) rfl (by decide) ?_
      refine x_iconst (pc := 106) (v := 0) C dX9_isSign_106 rfl ?_
      exact x_bret (pc := 107) C X (b := false) rfl dX9_isSign_107 (rI_b (by decide))
    · obtain rfl : x = 50 := i_eq.mpr h9
      refine x_tableIn (pc := 1) C 106 dX9_isSign_1 (by decide) (by decide) rfl (by decide) ?_
      refine x_iconst (pc := 106) (v := 0) C dX9_isSign_106 rfl ?_
      exact x_bret (pc := 107) C X (b := false) rfl dX9_isSign_107 (rI_b (by decide))
    · obtain rfl : x = 51 := i_eq.mpr h9
      refine x_tableIn (pc := 1) C 106 dX9_isSign_1 (by decide) (by decide) rfl (by decide) ?_
      refine x_iconst (pc := 106) (v := 0) C dX9_isSign_106 rfl ?_
      exact x_bret (pc := 107) C X (b := false) rfl dX9_isSign_107 (rI_b (by decide))
    · obtain rfl : x = 52 := i_eq.mpr h9
      refine x_tableIn (pc := 1) C 106 dX9_isSign_1 (by decide) (by decide) rfl (by decide) ?_
      refine x_iconst (pc := 106) (v := 0) C dX9_isSign_106 rfl ?_
      exact x_bret (pc := 107) C X (b := false) rfl dX9_isSign_107 (rI_b (by decide))
    · obtain rfl : x = 53 := i_eq.mpr h9
      refine x_tableIn (pc := 1) C 106 dX9_isSign_1 (by decide) (by decide) rfl (by decide) ?_
      refine x_iconst (pc := 106) (v := 0) C dX9_isSign_106 rfl ?_
      exact x_bret (pc := 107) C X (b := false) rfl dX9_isSign_107 (rI_b (by decide))
    · obtain rfl : x = 54 := i_eq.mpr h9
      refine x_tableIn (pc := 1) C 106 dX9_isSign_1 (by decide) (by decide) rfl (by decide) ?_
      refine x_iconst (pc := 106) (v := 0) C dX9_isSign_106 rfl ?_
      exact x_bret (pc := 107) C X (b := false) rfl dX9_isSign_107 (rI_b (by decide))
    · obtain rfl : x = 55 := i_eq.mpr h9
      refine x_tableIn (pc := 1) C 106 dX9_isSign_1 (by decide) (by decide) rfl (by decide) ?_
      refine x_iconst (pc := 106) (v := 0) C dX9_isSign_106 rfl ?_
      exact x_bret (pc := 107) C X (b := false) rfl dX9_isSign_107 (rI_b (by decide))
    · obtain rfl : x = 56 := i_eq.mpr h9
      refine x_tableIn (pc := 1) C 106 dX9_isSign_1 (by decide) (by decide) rfl (by decide) ?_
      refine x_iconst (pc := 106) (v := 0) C dX9_isSign_106 rfl ?_
      exact x_bret (pc := 107) C X (b := false) rfl dX9_isSign_107 (rI_b (by decide))
    · obtain rfl : x = 57 := i_eq.mpr h9
      refine x_tableIn (pc := 1) C 106 dX9_isSign_1 (by decide) (by decide) rfl (by decide) ?_
      refine x_iconst (pc := 106) (v := 0) C dX9_isSign_106 rfl ?_
      exact x_bret (pc := 107) C X (b := false) rfl dX9_isSign_107 (rI_b (by decide))
    · obtain rfl : x = 58 := i_eq.mpr h9
      refine x_tableIn (pc := 1) C 106 dX9_isSign_1 (by decide) (by decide) rfl (by decide) ?_
      refine x_iconst (pc := 106) (v := 0) C dX9_isSign_106 rfl ?_
      exact x_bret (pc := 107) C X (b := false) rfl dX9_isSign_107 (rI_b (by decide))
    · obtain rfl : x = 59 := i_eq.mpr h9
      refine x_tableIn (pc := 1) C 104 dX9_isSign_1 (by decide) (by decide) rfl (by decide) ?_
      refine x_iconst (pc := 104) (v := 1) C dX9_isSign_104 rfl ?_
      exact x_bret (pc := 105) C X (b := true) rfl dX9_isSign_105 (rI_b (by decide))
    · obtain rfl : x = 60 := i_eq.mpr h9
      refine x_tableIn (pc := 1) C 104 dX9_isSign_1 (by decide) (by decide) rfl (by decide) ?_
      refine x_iconst (pc := 104) (v := 1) C dX9_isSign_104 rfl ?_
      exact x_bret (pc := 105) C X (b := true) rfl dX9_isSign_105 (rI_b (by decide))
    · obtain rfl : x = 61 := i_eq.mpr h9
      refine x_tableIn (pc := 1) C 104 dX9_isSign_1 (by decide) (by decide) rfl (by decide) ?_
      refine x_iconst (pc := 104) (v := 1) C dX9_isSign_104 rfl ?_
      exact x_bret (pc := 105) C X (b := true) rfl dX9_isSign_105 (rI_b (by decide))
  · refine x_tableOut (pc := 1) C 106 dX9_isSign_1 (by omega) (by decide) ?_
    refine x_iconst (pc := 106) (v := 0) C dX9_isSign_106 rfl ?_
    exact x_bret (pc := 107) C X (b := false) rfl dX9_isSign_107 (rI_b (Eq.symm (by unfold cSgn; rw [decide_eq_false (fun e : x = 40 => h9 (by rw [e]; decide)), decide_eq_false (fun e : x = 41 => h9 (by rw [e]; decide)), decide_eq_false (fun e : x = 59 => h9 (by rw [e]; decide)), decide_eq_false (fun e : x = 43 => h9 (by rw [e]; decide)), decide_eq_false (fun e : x = 45 => h9 (by rw [e]; decide)), decide_eq_false (fun e : x = 42 => h9 (by rw [e]; decide)), decide_eq_false (fun e : x = 60 => h9 (by rw [e]; decide)), decide_eq_false (fun e : x = 61 => h9 (by rw [e]; decide))]; rfl)))

set_option maxRecDepth 100000 in
set_option maxHeartbeats 800000 in
theorem c_X9_isSpelled (t : CT) (M : MM) {v : Value} {q a : Nat} (hX : ∀ U H, t.2.2.2 U H → txW v q a U H) (hv : v = .null ∨ ∃ z, v = .ref z) {Y : Nat → Int32} {n : Nat} (hT : TY Y n M) {p e j : Nat} (hp : M 5 3 = nI p) (he : M 5 4 = nI e) (hpe : p ≤ e) (hen : e ≤ n) (hj : j < 12) : XMet (wC t) yX9_isSpelled cX9_isSpelled 4 (some .boolean) 5 [.ref (t.1 5), .int (nI (wst j)), .int (nI (wst j + wln j))] M (rI (b2i (wis Y p e j)) M) := by
  refine x_met RX9 (by decide) rfl (Nat.le_of_ble_eq_true rfl) (fun κ C X E => ?_)
  refine x_L (L' := [(0, .ref (t.1 5)), (1, .int (nI (wst j))), (2, .int (nI (wst j + wln j)))]) rfl ?_
  have h160 := hT.1
  have hw := wst_ok j hj
  refine x_iload_n (pc := 0) C 2 dX9_isSpelled_0 rfl ?_
  refine x_iload_n (pc := 1) C 1 dX9_isSpelled_1 rfl ?_
  refine x_isub (pc := 2) C dX9_isSpelled_2 ?_
  refine x_eq (show (nI (wst j + wln j)) - (nI (wst j)) = nI (wln j) from (by rw [pk_sub (by omega)]; congr 1; omega)) ?_
  refine x_aload_n (pc := 3) C 0 dX9_isSpelled_3 rfl ?_
  refine g_Tape_next (pc := 4) C E q8_4 dX9_isSpelled_4 ?_
  refine x_eq (show M 5 4 = nI e from he) ?_
  refine x_aload_n (pc := 7) C 0 dX9_isSpelled_7 rfl ?_
  refine g_Tape_place (pc := 8) C E q8_6 dX9_isSpelled_8 ?_
  refine x_eq (show M 5 3 = nI p from hp) ?_
  refine x_isub (pc := 11) C dX9_isSpelled_11 ?_
  refine x_eq (show (nI e) - (nI p) = nI (e - p) from pk_sub (by omega)) ?_
  refine x_icmp_eq (pc := 12) C 17 dX9_isSpelled_12 (by decide) (fun h12 => ?_) (fun h12 => ?_)
  · have h12b : wln j = e - p := (nI_eq (by omega) (by omega)).mp h12
    refine x_iload_n (pc := 17) C 1 dX9_isSpelled_17 rfl ?_
    refine x_istore_n (pc := 18) (L' := [(3, .int (nI (wst j))), (0, .ref (t.1 5)), (1, .int (nI (wst j))), (2, .int (nI (wst j + wln j)))]) C dX9_isSpelled_18 (by decide) rfl ?_
    have loop19 : ∀ (k i : Nat) (y : Int32) , i + k = wln j → y = nI (wst j + i) → anyN (fun i => !decide (wbB (wst j + i) = Y (p + i))) i = false → XV κ (xP (wC t) M) 19 [(3, .int y), (0, .ref (t.1 5)), (1, .int (nI (wst j))), (2, .int (nI (wst j + wln j)))] [] := by
      intro k
      induction k with
        | zero =>
          intro i y  hcnt ey hz
          subst ey
          obtain rfl : wln j = i := by omega
          refine x_iload_n (pc := 19) C 0 dX9_isSpelled_19 rfl ?_
          refine x_iload_n (pc := 20) C 3 dX9_isSpelled_20 rfl ?_
          refine x_icmp_ge_t (pc := 21) C 54 dX9_isSpelled_21 (by decide) (nI_le (by omega) (by omega)) ?_
          refine x_iconst (pc := 54) (v := 1) C dX9_isSpelled_54 rfl ?_
          exact x_bret (pc := 55) C X (b := true) rfl dX9_isSpelled_55 (rI_b (Eq.symm (by unfold wis; rw [hz, decide_eq_true (by omega)]; rfl)))
        | succ k ih =>
          intro i y  hcnt ey hz
          subst ey
          have hi19 : i < wln j := by omega
          refine x_iload_n (pc := 19) C 0 dX9_isSpelled_19 rfl ?_
          refine x_iload_n (pc := 20) C 3 dX9_isSpelled_20 rfl ?_
          refine x_icmp_ge_f (pc := 21) C 54 dX9_isSpelled_21 (by decide) (nI_ge (by omega) (by omega)) ?_
          refine x_ldcS (pc := 24) C E (fun U H g => (hX U H g).2.2) dX9_isSpelled_24 ?_
          refine x_iload_n (pc := 26) C 0 dX9_isSpelled_26 rfl ?_
          refine x_callVX (pc := 27) C E [.int (nI (wst j + i))] [] (c_J0_charAt (w := wC t) (fun U H g => (hX U H g).1) (fun U H g => (hX U H g).2.1) (k := wst j + i) (by omega) (by decide) hv rfl (wb_ok _ (by omega)) (wb_nar _ (by omega))) m_J0_charAt_5068e q9_5 (fun U H g => (hX U H g).2.1.1) rfl (by decide) (Nat.le_of_ble_eq_true rfl) dX9_isSpelled_27 rfl (k_I ?_)
          refine x_aload_n (pc := 30) C 1 dX9_isSpelled_30 rfl ?_
          refine g_Tape_bytes (pc := 31) C E q3_12 dX9_isSpelled_31 ?_
          refine x_aload_n (pc := 34) C 1 dX9_isSpelled_34 rfl ?_
          refine g_Tape_place (pc := 35) C E q8_6 dX9_isSpelled_35 ?_
          refine x_eq (show M 5 3 = nI p from hp) ?_
          refine x_iload_n (pc := 38) C 0 dX9_isSpelled_38 rfl ?_
          refine x_iadd (pc := 39) C dX9_isSpelled_39 ?_
          refine x_eq (show (nI p) + (nI (wst j + i)) = nI (p + (wst j + i)) from nI_add _ _) ?_
          refine x_iload_n (pc := 40) C 2 dX9_isSpelled_40 rfl ?_
          refine x_isub (pc := 41) C dX9_isSpelled_41 ?_
          refine x_eq (show (nI (p + (wst j + i))) - (nI (wst j)) = nI (p + i) from (by rw [pk_sub (by omega)]; congr 1; omega)) ?_
          refine l_bytes (pc := 42) C E (by omega) dX9_isSpelled_42 ?_
          refine x_eq (show M 6 (p + i) = Y (p + i) from (hT.2.2 _ (by omega))) ?_
          refine x_icmp_eq (pc := 43) C 48 dX9_isSpelled_43 (by decide) (fun h43 => ?_) (fun h43 => ?_)
          · refine x_iinc (pc := 48) (v := nI ((wst j + i) + 1)) (L' := [(3, .int (nI ((wst j + i) + 1))), (0, .ref (t.1 5)), (1, .int (nI (wst j))), (2, .int (nI (wst j + wln j)))]) C 0 dX9_isSpelled_48 rfl (nI_1 _) (by decide) rfl ?_
            refine x_goto (pc := 51) C 19 dX9_isSpelled_51 (by decide) ?_
            refine x_sub [0, 1, 2, 3] rfl ?_
            exact ih (i + 1) _ (by omega) (by rw [show wst j + (i + 1) = wst j + i + 1 by omega]) (by rw [anyN, hz, decide_eq_true h43]; rfl)
          · refine x_iconst (pc := 46) (v := 0) C dX9_isSpelled_46 rfl ?_
            exact x_bret (pc := 47) C X (b := false) rfl dX9_isSpelled_47 (rI_b (Eq.symm (by unfold wis; rw [anyN_t (p := (fun i => !decide (wbB (wst j + i) = Y (p + i)))) (d := i) (by omega) (by rw [decide_eq_false h43]; rfl)]; exact Bool.and_false _)))
    refine x_sub [0, 1, 2, 3] rfl ?_
    exact loop19 (wln j) 0 _ (by omega) rfl rfl
  · refine x_iconst (pc := 15) (v := 0) C dX9_isSpelled_15 rfl ?_
    exact x_bret (pc := 16) C X (b := false) rfl dX9_isSpelled_16 (rI_b (Eq.symm (by unfold wis; rw [decide_eq_false (fun e2 => h12 (by congr 1; omega))]; rfl)))

def wjx (i : Nat) : Nat := ([0, 0, 0, 0, 0, 0, 1, 1, 1, 1, 1, 2, 2, 2, 2, 2, 2, 3, 3, 3, 4, 4, 4, 4, 5, 5, 5, 5, 6, 6, 6, 6, 6, 7, 7, 7, 7, 7, 7, 8, 8, 8, 8, 8, 9, 9, 9, 9, 9, 9, 9, 10, 10, 10, 10, 10, 11, 11, 11, 11, 12] : List Nat).getD i 0
def wfr (i : Nat) : Nat := ([0, 0, 0, 0, 0, 0, 6, 6, 6, 6, 6, 11, 11, 11, 11, 11, 11, 17, 17, 17, 20, 20, 20, 20, 24, 24, 24, 24, 28, 28, 28, 28, 28, 33, 33, 33, 33, 33, 33, 39, 39, 39, 39, 39, 44, 44, 44, 44, 44, 44, 44, 51, 51, 51, 51, 51, 56, 56, 56, 56, 60] : List Nat).getD i 0
theorem wjx_b : ∀ i, i < 60 → wbB i = 32 → wjx i < 12 ∧ wfr i = wst (wjx i) ∧ i = wst (wjx i) + wln (wjx i) ∧ wjx (i + 1) = wjx i + 1 ∧ wfr (i + 1) = i + 1 := by decide +kernel
theorem wjx_n : ∀ i, i < 60 → ¬ wbB i = 32 → wjx (i + 1) = wjx i ∧ wfr (i + 1) = wfr i := by decide +kernel
theorem wjx_le : ∀ i, i < 61 → wjx i ≤ 12 := by decide +kernel
set_option maxRecDepth 100000 in
set_option maxHeartbeats 800000 in
theorem c_X9_wordIndex (t : CT) (M : MM) {v : Value} {q a : Nat} (hX : ∀ U H, t.2.2.2 U H → txW v q a U H) (hv : v = .null ∨ ∃ z, v = .ref z) {Y : Nat → Int32} {n : Nat} (hT : TY Y n M) {p e : Nat} (hp : M 5 3 = nI p) (he : M 5 4 = nI e) (hpe : p ≤ e) (hen : e ≤ n) : XMet (wC t) yX9_wordIndex cX9_wordIndex 4 (some .int) 6 [.ref (t.1 5)] M (rI (wiA (wdx Y p e)) M) := by
  refine x_met RX9 (by decide) rfl (Nat.le_of_ble_eq_true rfl) (fun κ C X E => ?_)
  refine x_L (L' := [(0, .ref (t.1 5))]) rfl ?_
  have h160 := hT.1
  refine x_iconst (pc := 0) (v := (nI 0)) C dX9_wordIndex_0 (by decide) ?_
  refine x_istore_n (pc := 1) (L' := [(1, .int (nI 0)), (0, .ref (t.1 5))]) C dX9_wordIndex_1 (by decide) rfl ?_
  refine x_iconst (pc := 2) (v := (nI 0)) C dX9_wordIndex_2 (by decide) ?_
  refine x_istore_n (pc := 3) (L' := [(2, .int (nI 0)), (1, .int (nI 0)), (0, .ref (t.1 5))]) C dX9_wordIndex_3 (by decide) rfl ?_
  refine x_iconst (pc := 4) (v := (nI 0)) C dX9_wordIndex_4 (by decide) ?_
  refine x_istore_n (pc := 5) (L' := [(3, .int (nI 0)), (2, .int (nI 0)), (1, .int (nI 0)), (0, .ref (t.1 5))]) C dX9_wordIndex_5 (by decide) rfl ?_
  have loop6 : ∀ (k i : Nat) (x : Int32) (y : Int32) (z : Int32) , i + k = 60 → x = nI (wjx i) → y = nI (wfr i) → z = nI i → wdF Y p e (12 - wjx i) (wjx i) = wdx Y p e → XV κ (xP (wC t) M) 6 [(3, .int z), (2, .int y), (1, .int x), (0, .ref (t.1 5))] [] := by
    intro k
    induction k with
      | zero =>
        intro i x y z  hcnt ex ey ez hg
        subst ex
        subst ey
        subst ez
        obtain rfl : 60 = i := by omega
        refine x_iload_n (pc := 6) C 0 dX9_wordIndex_6 rfl ?_
        refine x_ldcS (pc := 7) C E (fun U H g => (hX U H g).2.2) dX9_wordIndex_7 ?_
        refine x_callVX (pc := 9) C E [] [.int (nI 60)] (c_J0_length (w := wC t) (fun U H g => (hX U H g).1) (fun U H g => (hX U H g).2.1) (by decide)) m_J0_length_8abf5 q9_4 (fun U H g => (hX U H g).2.1.1) rfl (by decide) (Nat.le_of_ble_eq_true rfl) dX9_wordIndex_9 rfl (k_I ?_)
        refine x_icmp_ge_t (pc := 12) C 50 dX9_wordIndex_12 (by decide) (nI_le (by omega) (by omega)) ?_
        refine x_iconst (pc := 50) (v := (-1)) C dX9_wordIndex_50 rfl ?_
        exact x_iret (pc := 51) C X dX9_wordIndex_51 ⟨by rw [← hg]; rfl, rfl⟩
      | succ k ih =>
        intro i x y z  hcnt ex ey ez hg
        subst ex
        subst ey
        subst ez
        have hi6 : i < 60 := by omega
        refine x_iload_n (pc := 6) C 0 dX9_wordIndex_6 rfl ?_
        refine x_ldcS (pc := 7) C E (fun U H g => (hX U H g).2.2) dX9_wordIndex_7 ?_
        refine x_callVX (pc := 9) C E [] [.int (nI i)] (c_J0_length (w := wC t) (fun U H g => (hX U H g).1) (fun U H g => (hX U H g).2.1) (by decide)) m_J0_length_8abf5 q9_4 (fun U H g => (hX U H g).2.1.1) rfl (by decide) (Nat.le_of_ble_eq_true rfl) dX9_wordIndex_9 rfl (k_I ?_)
        refine x_icmp_ge_f (pc := 12) C 50 dX9_wordIndex_12 (by decide) (nI_ge (by omega) (by omega)) ?_
        refine x_ldcS (pc := 15) C E (fun U H g => (hX U H g).2.2) dX9_wordIndex_15 ?_
        refine x_iload_n (pc := 17) C 0 dX9_wordIndex_17 rfl ?_
        refine x_callVX (pc := 18) C E [.int (nI i)] [] (c_J0_charAt (w := wC t) (fun U H g => (hX U H g).1) (fun U H g => (hX U H g).2.1) (k := i) (by omega) (by decide) hv rfl (wb_ok _ (by omega)) (wb_nar _ (by omega))) m_J0_charAt_5068e q9_5 (fun U H g => (hX U H g).2.1.1) rfl (by decide) (Nat.le_of_ble_eq_true rfl) dX9_wordIndex_18 rfl (k_I ?_)
        refine x_bipush (pc := 21) (v := 32) C dX9_wordIndex_21 rfl ?_
        refine x_icmp_ne (pc := 23) C 44 dX9_wordIndex_23 (by decide) (fun h23 => ?_) (fun h23 => ?_)
        · have hn := wjx_n i (by omega) h23
          refine x_iinc (pc := 44) (v := nI (i + 1)) (L' := [(3, .int (nI (i + 1))), (2, .int (nI (wfr i))), (1, .int (nI (wjx i))), (0, .ref (t.1 5))]) C 0 dX9_wordIndex_44 rfl (nI_1 _) (by decide) rfl ?_
          refine x_goto (pc := 47) C 6 dX9_wordIndex_47 (by decide) ?_
          refine x_sub [0, 1, 2, 3] rfl ?_
          exact ih (i + 1) _ _ _ (by omega) (by rw [hn.1]) (by rw [hn.2]) rfl (by rw [← hg, hn.1])
        · have hb := wjx_b i (by omega) h23
          refine x_aload_n (pc := 26) C 3 dX9_wordIndex_26 rfl ?_
          refine x_iload_n (pc := 27) C 1 dX9_wordIndex_27 rfl ?_
          refine x_eq (show nI (wfr i) = nI (wst (wjx i)) from (by rw [hb.2.1])) ?_
          refine x_iload_n (pc := 28) C 0 dX9_wordIndex_28 rfl ?_
          refine x_eq (show nI i = nI (wst (wjx i) + wln (wjx i)) from (by rw [← hb.2.2.1])) ?_
          refine x_callV (pc := 29) C E [.int (nI (wst (wjx i))), .int (nI (wst (wjx i) + wln (wjx i)))] [] (c_X9_isSpelled t _ hX hv hT hp he hpe hen hb.1) m_X9_isSpelled q9_6 xo_Tape rfl (by decide) (Nat.le_of_ble_eq_true rfl) dX9_wordIndex_29 rfl (k_I ?_)
          refine x_ifb_eq (pc := 32) C 37 dX9_wordIndex_32 (by decide) (fun h32 => ?_) (fun h32 => ?_)
          · refine x_iinc (pc := 37) (v := nI ((wjx i) + 1)) (L' := [(1, .int (nI ((wjx i) + 1))), (3, .int (nI i)), (2, .int (nI (wfr i))), (0, .ref (t.1 5))]) C 2 dX9_wordIndex_37 rfl (nI_1 _) (by decide) rfl ?_
            refine x_iload_n (pc := 40) C 1 dX9_wordIndex_40 rfl ?_
            refine x_iconst (pc := 41) (v := 1) C dX9_wordIndex_41 rfl ?_
            refine x_iadd (pc := 42) C dX9_wordIndex_42 ?_
            refine x_istore_n (pc := 43) (L' := [(2, .int ((nI i) + 1)), (1, .int (nI ((wjx i) + 1))), (3, .int (nI i)), (0, .ref (t.1 5))]) C dX9_wordIndex_43 (by decide) rfl ?_
            refine x_iinc (pc := 44) (v := nI (i + 1)) (L' := [(3, .int (nI (i + 1))), (2, .int ((nI i) + 1)), (1, .int (nI ((wjx i) + 1))), (0, .ref (t.1 5))]) C 2 dX9_wordIndex_44 rfl (nI_1 _) (by decide) rfl ?_
            refine x_goto (pc := 47) C 6 dX9_wordIndex_47 (by decide) ?_
            refine x_sub [0, 1, 2, 3] rfl ?_
            exact ih (i + 1) _ _ _ (by omega) (congrArg nI hb.2.2.2.1.symm) ((nI_1 _).trans (congrArg nI hb.2.2.2.2.symm)) rfl (by rw [← hg, hb.2.2.2.1, show 12 - wjx i = (12 - (wjx i + 1)) + 1 by omega, wdF, if_neg (by rw [h32]; decide)])
          · refine x_iload_n (pc := 35) C 2 dX9_wordIndex_35 rfl ?_
            exact x_iret (pc := 36) C X dX9_wordIndex_36 ⟨by rw [← hg, show 12 - wjx i = (12 - (wjx i + 1)) + 1 by omega, wdF, if_pos h32]; unfold wiA; rw [if_pos hb.1], rfl⟩
  refine x_sub [0, 1, 2, 3] rfl ?_
  exact loop6 60 0 _ _ _ (by omega) rfl rfl rfl rfl

set_option maxRecDepth 100000 in
set_option maxHeartbeats 800000 in
theorem c_X9_readWord (t : CT) (M : MM) {v : Value} {q a : Nat} (hX : ∀ U H, t.2.2.2 U H → txW v q a U H) (hv : v = .null ∨ ∃ z, v = .ref z) {Y : Nat → Int32} {n : Nat} (hT : TY Y n M) {p e : Nat} (hp : M 5 3 = nI p) (h4 : M 5 4 = nI p) (hpn : p ≤ n) (hE : rnT (tLe Y) n p = e) : XMet (wC t) yX9_readWord cX9_readWord 2 none 7 [.ref (t.1 5)] M (fun r M' => r = none ∧ M' 5 4 = nI e ∧ M' 5 5 = wkK (wdx Y p e) ∧ (6 ≤ wdx Y p e → wdx Y p e < 12 → M' 5 6 = nI (wdx Y p e - 6)) ∧ (∀ a b, (a ≠ 5 ∨ b < 4 ∨ 6 < b) → M' a b = M a b)) := by
  refine x_met RX9 (by decide) rfl (Nat.le_of_ble_eq_true rfl) (fun κ C X E => ?_)
  refine x_L (L' := [(0, .ref (t.1 5))]) rfl ?_
  have h160 := hT.1
  have hbd := rnT_le (P := tLe Y) hpn
  rw [hE] at hbd
  have loop0 : ∀ (k i : Nat) (Mx : MM) , i + k = n → (Mx 5 4 = nI i ∧ ∀ a b, (a ≠ 5 ∨ b ≠ 4) → Mx a b = M a b) → rnT (tLe Y) n i = e → XV κ (xP (wC t) Mx) 0 [(0, .ref (t.1 5))] [] := by
    intro k
    induction k with
      | zero =>
        intro i  Mx  hcnt  eMx hg
        obtain rfl : n = i := by omega
        skip
        refine x_aload_n (pc := 0) C 0 dX9_readWord_0 rfl ?_
        refine g_Tape_next (pc := 1) C E q8_4 dX9_readWord_1 ?_
        refine x_eq (show Mx 5 4 = nI n from eMx.1) ?_
        refine x_aload_n (pc := 4) C 0 dX9_readWord_4 rfl ?_
        refine g_Tape_size (pc := 5) C E q7_23 dX9_readWord_5 ?_
        refine x_eq (show Mx 5 2 = nI n from ((eMx.2 5 2 (by omega)).trans hT.2.1)) ?_
        refine x_icmp_ge_t (pc := 8) C 39 dX9_readWord_8 (by decide) (nI_le (by omega) (by omega)) ?_
        have hie : n = e := by rw [← hg]; exact (rnT_n (Nat.le_refl _)).symm
        have e4 : Mx 5 4 = nI e := eMx.1.trans (by rw [hie])
        have hTx : TY Y n Mx := ty_fr hT (fun a b hab => eMx.2 a b (by omega))
        have hpx : Mx 5 3 = nI p := (eMx.2 _ _ (by omega)).trans hp
        have hwl := wdx_le Y p e
        refine x_aload_n (pc := 39) C 0 dX9_readWord_39 rfl ?_
        refine x_callV (pc := 40) C E [] [] (c_X9_wordIndex t Mx hX hv hTx hpx e4 (by omega) (by omega)) m_X9_wordIndex q9_0 xo_Tape rfl (by decide) (Nat.le_of_ble_eq_true rfl) dX9_readWord_40 rfl (k_I ?_)
        rcases wiA_3 hwl with ⟨hw, ew⟩ | ⟨hw, hw2, ew⟩ | ⟨hw, ew⟩
        · rw [ew]
          refine x_istore_n (pc := 43) (L' := [(1, .int (nI (wdx Y p e))), (0, .ref (t.1 5))]) C dX9_readWord_43 (by decide) rfl ?_
          refine x_iload_n (pc := 44) C 0 dX9_readWord_44 rfl ?_
          refine x_bipush (pc := 45) (v := (nI 6)) C dX9_readWord_45 (by decide) ?_
          refine x_icmp_lt_t (pc := 47) C 66 dX9_readWord_47 (by decide) (nI_lt (by omega) (by decide)) ?_
          refine x_aload_n (pc := 66) C 1 dX9_readWord_66 rfl ?_
          refine x_iload_n (pc := 67) C 0 dX9_readWord_67 rfl ?_
          refine x_iconst (pc := 68) (v := (-1)) C dX9_readWord_68 rfl ?_
          refine x_icmp_ne_t (pc := 69) C 76 dX9_readWord_69 (by decide) (fun hh => by have h2 := nI_toInt (n := wdx Y p e) (by omega); rw [hh] at h2; simp at h2 <;> omega) ?_
          refine x_iconst (pc := 76) (v := (nI 4)) C dX9_readWord_76 (by decide) ?_
          refine x_iload_n (pc := 77) C 0 dX9_readWord_77 rfl ?_
          refine x_iadd (pc := 78) C dX9_readWord_78 ?_
          refine x_eq (show (nI 4) + (nI (wdx Y p e)) = nI (4 + wdx Y p e) from nI_add _ _) ?_
          refine p_Tape_token (pc := 79) C E q8_5 dX9_readWord_79 ?_
          exact x_vret (pc := 82) C X dX9_readWord_82 ⟨rfl, ((mu_k _ _ _ _ (by decide)).trans e4), (mu_s _ _ _ _).trans (Eq.symm (by unfold wkK; rw [if_neg (by omega), if_neg (by omega)])), (fun g1 g2 => absurd g1 (by omega)), (fun a b hab => (by rw [mu_at, if_neg (by omega)]; exact eMx.2 a b (by omega)))⟩
        · rw [ew]
          refine x_istore_n (pc := 43) (L' := [(1, .int (nI (wdx Y p e))), (0, .ref (t.1 5))]) C dX9_readWord_43 (by decide) rfl ?_
          refine x_iload_n (pc := 44) C 0 dX9_readWord_44 rfl ?_
          refine x_bipush (pc := 45) (v := (nI 6)) C dX9_readWord_45 (by decide) ?_
          refine x_icmp_lt_f (pc := 47) C 66 dX9_readWord_47 (by decide) (nI_nlt (by omega) (by omega)) ?_
          refine x_aload_n (pc := 50) C 1 dX9_readWord_50 rfl ?_
          refine x_iconst (pc := 51) (v := 3) C dX9_readWord_51 rfl ?_
          refine p_Tape_token (pc := 52) C E q8_5 dX9_readWord_52 ?_
          refine x_aload_n (pc := 55) C 1 dX9_readWord_55 rfl ?_
          refine x_iload_n (pc := 56) C 0 dX9_readWord_56 rfl ?_
          refine x_bipush (pc := 57) (v := (nI 6)) C dX9_readWord_57 (by decide) ?_
          refine x_isub (pc := 59) C dX9_readWord_59 ?_
          refine x_eq (show (nI (wdx Y p e)) - (nI 6) = nI (wdx Y p e - 6) from pk_sub (by omega)) ?_
          refine p_Tape_value (pc := 60) C E q8_23 dX9_readWord_60 ?_
          refine x_goto (pc := 63) C 82 dX9_readWord_63 (by decide) ?_
          exact x_vret (pc := 82) C X dX9_readWord_82 ⟨rfl, ((mu_k _ _ _ _ (by decide)).trans ((mu_k _ _ _ _ (by decide)).trans e4)), ((mu_k _ _ _ _ (by decide)).trans (mu_s _ _ _ _)).trans (Eq.symm (by unfold wkK; rw [if_neg (by omega), if_pos hw])), (fun _ _ => (mu_s _ _ _ _)), (fun a b hab => (by rw [mu_at, if_neg (by omega), mu_at, if_neg (by omega)]; exact eMx.2 a b (by omega)))⟩
        · rw [ew]
          refine x_istore_n (pc := 43) (L' := [(1, .int (-1)), (0, .ref (t.1 5))]) C dX9_readWord_43 (by decide) rfl ?_
          refine x_iload_n (pc := 44) C 0 dX9_readWord_44 rfl ?_
          refine x_bipush (pc := 45) (v := (nI 6)) C dX9_readWord_45 (by decide) ?_
          refine x_icmp_lt_t (pc := 47) C 66 dX9_readWord_47 (by decide) (by decide) ?_
          refine x_aload_n (pc := 66) C 1 dX9_readWord_66 rfl ?_
          refine x_iload_n (pc := 67) C 0 dX9_readWord_67 rfl ?_
          refine x_iconst (pc := 68) (v := (-1)) C dX9_readWord_68 rfl ?_
          refine x_icmp_ne_f (pc := 69) C 76 dX9_readWord_69 (by decide) rfl ?_
          refine x_iconst (pc := 72) (v := 1) C dX9_readWord_72 rfl ?_
          refine x_goto (pc := 73) C 79 dX9_readWord_73 (by decide) ?_
          refine p_Tape_token (pc := 79) C E q8_5 dX9_readWord_79 ?_
          exact x_vret (pc := 82) C X dX9_readWord_82 ⟨rfl, ((mu_k _ _ _ _ (by decide)).trans e4), (mu_s _ _ _ _).trans (Eq.symm (by unfold wkK; rw [if_pos (by omega)])), (fun g1 g2 => absurd g2 (by omega)), (fun a b hab => (by rw [mu_at, if_neg (by omega)]; exact eMx.2 a b (by omega)))⟩
        
      | succ k ih =>
        intro i  Mx  hcnt  eMx hg
        have hi0 : i < n := by omega
        refine x_aload_n (pc := 0) C 0 dX9_readWord_0 rfl ?_
        refine g_Tape_next (pc := 1) C E q8_4 dX9_readWord_1 ?_
        refine x_eq (show Mx 5 4 = nI i from eMx.1) ?_
        refine x_aload_n (pc := 4) C 0 dX9_readWord_4 rfl ?_
        refine g_Tape_size (pc := 5) C E q7_23 dX9_readWord_5 ?_
        refine x_eq (show Mx 5 2 = nI n from ((eMx.2 5 2 (by omega)).trans hT.2.1)) ?_
        refine x_icmp_ge_f (pc := 8) C 39 dX9_readWord_8 (by decide) (nI_ge (by omega) (by omega)) ?_
        refine x_aload_n (pc := 11) C 0 dX9_readWord_11 rfl ?_
        refine g_Tape_bytes (pc := 12) C E q3_12 dX9_readWord_12 ?_
        refine x_aload_n (pc := 15) C 0 dX9_readWord_15 rfl ?_
        refine g_Tape_next (pc := 16) C E q8_4 dX9_readWord_16 ?_
        refine x_eq (show Mx 5 4 = nI i from eMx.1) ?_
        refine l_bytes (pc := 19) C E (by omega) dX9_readWord_19 ?_
        refine x_eq (show Mx 6 i = Y i from ((eMx.2 6 _ (by omega)).trans (hT.2.2 _ (by omega)))) ?_
        refine x_callS (pc := 20) C E [.int (Y i)] [] (c_X9_isLetter t _ _) m_X9_isLetter q8_16 rfl (by decide) (Nat.le_of_ble_eq_true rfl) dX9_readWord_20 rfl (k_I ?_)
        refine x_ifb_eq (pc := 23) C 39 dX9_readWord_23 (by decide) (fun h23 => ?_) (fun h23 => ?_)
        · have hie : i = e := by rw [← hg]; exact (rnT_f (P := tLe Y) h23).symm
          have e4 : Mx 5 4 = nI e := eMx.1.trans (by rw [hie])
          have hTx : TY Y n Mx := ty_fr hT (fun a b hab => eMx.2 a b (by omega))
          have hpx : Mx 5 3 = nI p := (eMx.2 _ _ (by omega)).trans hp
          have hwl := wdx_le Y p e
          refine x_aload_n (pc := 39) C 0 dX9_readWord_39 rfl ?_
          refine x_callV (pc := 40) C E [] [] (c_X9_wordIndex t Mx hX hv hTx hpx e4 (by omega) (by omega)) m_X9_wordIndex q9_0 xo_Tape rfl (by decide) (Nat.le_of_ble_eq_true rfl) dX9_readWord_40 rfl (k_I ?_)
          rcases wiA_3 hwl with ⟨hw, ew⟩ | ⟨hw, hw2, ew⟩ | ⟨hw, ew⟩
          · rw [ew]
            refine x_istore_n (pc := 43) (L' := [(1, .int (nI (wdx Y p e))), (0, .ref (t.1 5))]) C dX9_readWord_43 (by decide) rfl ?_
            refine x_iload_n (pc := 44) C 0 dX9_readWord_44 rfl ?_
            refine x_bipush (pc := 45) (v := (nI 6)) C dX9_readWord_45 (by decide) ?_
            refine x_icmp_lt_t (pc := 47) C 66 dX9_readWord_47 (by decide) (nI_lt (by omega) (by decide)) ?_
            refine x_aload_n (pc := 66) C 1 dX9_readWord_66 rfl ?_
            refine x_iload_n (pc := 67) C 0 dX9_readWord_67 rfl ?_
            refine x_iconst (pc := 68) (v := (-1)) C dX9_readWord_68 rfl ?_
            refine x_icmp_ne_t (pc := 69) C 76 dX9_readWord_69 (by decide) (fun hh => by have h2 := nI_toInt (n := wdx Y p e) (by omega); rw [hh] at h2; simp at h2 <;> omega) ?_
            refine x_iconst (pc := 76) (v := (nI 4)) C dX9_readWord_76 (by decide) ?_
            refine x_iload_n (pc := 77) C 0 dX9_readWord_77 rfl ?_
            refine x_iadd (pc := 78) C dX9_readWord_78 ?_
            refine x_eq (show (nI 4) + (nI (wdx Y p e)) = nI (4 + wdx Y p e) from nI_add _ _) ?_
            refine p_Tape_token (pc := 79) C E q8_5 dX9_readWord_79 ?_
            exact x_vret (pc := 82) C X dX9_readWord_82 ⟨rfl, ((mu_k _ _ _ _ (by decide)).trans e4), (mu_s _ _ _ _).trans (Eq.symm (by unfold wkK; rw [if_neg (by omega), if_neg (by omega)])), (fun g1 g2 => absurd g1 (by omega)), (fun a b hab => (by rw [mu_at, if_neg (by omega)]; exact eMx.2 a b (by omega)))⟩
          · rw [ew]
            refine x_istore_n (pc := 43) (L' := [(1, .int (nI (wdx Y p e))), (0, .ref (t.1 5))]) C dX9_readWord_43 (by decide) rfl ?_
            refine x_iload_n (pc := 44) C 0 dX9_readWord_44 rfl ?_
            refine x_bipush (pc := 45) (v := (nI 6)) C dX9_readWord_45 (by decide) ?_
            refine x_icmp_lt_f (pc := 47) C 66 dX9_readWord_47 (by decide) (nI_nlt (by omega) (by omega)) ?_
            refine x_aload_n (pc := 50) C 1 dX9_readWord_50 rfl ?_
            refine x_iconst (pc := 51) (v := 3) C dX9_readWord_51 rfl ?_
            refine p_Tape_token (pc := 52) C E q8_5 dX9_readWord_52 ?_
            refine x_aload_n (pc := 55) C 1 dX9_readWord_55 rfl ?_
            refine x_iload_n (pc := 56) C 0 dX9_readWord_56 rfl ?_
            refine x_bipush (pc := 57) (v := (nI 6)) C dX9_readWord_57 (by decide) ?_
            refine x_isub (pc := 59) C dX9_readWord_59 ?_
            refine x_eq (show (nI (wdx Y p e)) - (nI 6) = nI (wdx Y p e - 6) from pk_sub (by omega)) ?_
            refine p_Tape_value (pc := 60) C E q8_23 dX9_readWord_60 ?_
            refine x_goto (pc := 63) C 82 dX9_readWord_63 (by decide) ?_
            exact x_vret (pc := 82) C X dX9_readWord_82 ⟨rfl, ((mu_k _ _ _ _ (by decide)).trans ((mu_k _ _ _ _ (by decide)).trans e4)), ((mu_k _ _ _ _ (by decide)).trans (mu_s _ _ _ _)).trans (Eq.symm (by unfold wkK; rw [if_neg (by omega), if_pos hw])), (fun _ _ => (mu_s _ _ _ _)), (fun a b hab => (by rw [mu_at, if_neg (by omega), mu_at, if_neg (by omega)]; exact eMx.2 a b (by omega)))⟩
          · rw [ew]
            refine x_istore_n (pc := 43) (L' := [(1, .int (-1)), (0, .ref (t.1 5))]) C dX9_readWord_43 (by decide) rfl ?_
            refine x_iload_n (pc := 44) C 0 dX9_readWord_44 rfl ?_
            refine x_bipush (pc := 45) (v := (nI 6)) C dX9_readWord_45 (by decide) ?_
            refine x_icmp_lt_t (pc := 47) C 66 dX9_readWord_47 (by decide) (by decide) ?_
            refine x_aload_n (pc := 66) C 1 dX9_readWord_66 rfl ?_
            refine x_iload_n (pc := 67) C 0 dX9_readWord_67 rfl ?_
            refine x_iconst (pc := 68) (v := (-1)) C dX9_readWord_68 rfl ?_
            refine x_icmp_ne_f (pc := 69) C 76 dX9_readWord_69 (by decide) rfl ?_
            refine x_iconst (pc := 72) (v := 1) C dX9_readWord_72 rfl ?_
            refine x_goto (pc := 73) C 79 dX9_readWord_73 (by decide) ?_
            refine p_Tape_token (pc := 79) C E q8_5 dX9_readWord_79 ?_
            exact x_vret (pc := 82) C X dX9_readWord_82 ⟨rfl, ((mu_k _ _ _ _ (by decide)).trans e4), (mu_s _ _ _ _).trans (Eq.symm (by unfold wkK; rw [if_pos (by omega)])), (fun g1 g2 => absurd g2 (by omega)), (fun a b hab => (by rw [mu_at, if_neg (by omega)]; exact eMx.2 a b (by omega)))⟩
          
        · refine x_aload_n (pc := 26) C 0 dX9_readWord_26 rfl ?_
          refine x_dup (pc := 27) C dX9_readWord_27 rfl ?_
          refine g_Tape_next (pc := 28) C E q8_4 dX9_readWord_28 ?_
          refine x_eq (show Mx 5 4 = nI i from eMx.1) ?_
          refine x_iconst (pc := 31) (v := 1) C dX9_readWord_31 rfl ?_
          refine x_iadd (pc := 32) C dX9_readWord_32 ?_
          refine x_eq (show (nI i) + 1 = nI (i + 1) from nI_1 _) ?_
          refine p_Tape_next (pc := 33) C E q8_4 dX9_readWord_33 ?_
          refine x_goto (pc := 36) C 0 dX9_readWord_36 (by decide) ?_
          refine x_sub [0] rfl ?_
          exact ih (i + 1) _ (by omega) ⟨mu_s _ _ _ _, fun a b hab => by rw [mu_at, if_neg (by omega)]; exact eMx.2 a b hab⟩ (by rw [← hg]; exact (rnT_t (P := tLe Y) hi0 h23).symm)
  refine x_sub [0] rfl ?_
  exact loop0 (n - p) p M (by omega) ⟨h4, fun _ _ _ => rfl⟩ hE

set_option maxRecDepth 100000 in
set_option maxHeartbeats 800000 in
theorem c_X9_readNumber (t : CT) (M : MM) {Y : Nat → Int32} {n : Nat} (hT : TY Y n M) {p e : Nat} (h4 : M 5 4 = nI p) (hpn : p ≤ n) (hE : rnT (tDi Y) n p = e) : XMet (wC t) yX9_readNumber cX9_readNumber 2 none 3 [.ref (t.1 5)] M (fun r M' => r = none ∧ M' 5 4 = nI e ∧ M' 5 5 = (if 4 < e - p then 1 else 2) ∧ M' 5 6 = nvF Y p (e - p) ∧ (∀ a b, (a ≠ 5 ∨ b < 4 ∨ 6 < b) → M' a b = M a b)) := by
  refine x_met RX9 (by decide) rfl (Nat.le_of_ble_eq_true rfl) (fun κ C X E => ?_)
  refine x_L (L' := [(0, .ref (t.1 5))]) rfl ?_
  have h160 := hT.1
  have hbd := rnT_le (P := tDi Y) hpn
  rw [hE] at hbd
  refine x_aload_n (pc := 0) C 0 dX9_readNumber_0 rfl ?_
  refine x_iconst (pc := 1) (v := 0) C dX9_readNumber_1 rfl ?_
  refine p_Tape_value (pc := 2) C E q8_23 dX9_readNumber_2 ?_
  refine x_iconst (pc := 5) (v := (nI 0)) C dX9_readNumber_5 (by decide) ?_
  refine x_istore_n (pc := 6) (L' := [(1, .int (nI 0)), (0, .ref (t.1 5))]) C dX9_readNumber_6 (by decide) rfl ?_
  have loop7 : ∀ (k i : Nat) (y : Int32) (Mx : MM) , i + k = n → y = nI (i - p) → (Mx 5 4 = nI i ∧ Mx 5 6 = nvF Y p (i - p) ∧ ∀ a b, (a ≠ 5 ∨ b < 4 ∨ 6 < b) → Mx a b = M a b) → rnT (tDi Y) n i = e → p ≤ i → XV κ (xP (wC t) Mx) 7 [(1, .int y), (0, .ref (t.1 5))] [] := by
    intro k
    induction k with
      | zero =>
        intro i y Mx  hcnt ey eMx hg hpi
        subst ey
        obtain rfl : n = i := by omega
        refine x_aload_n (pc := 7) C 1 dX9_readNumber_7 rfl ?_
        refine g_Tape_next (pc := 8) C E q8_4 dX9_readNumber_8 ?_
        refine x_eq (show Mx 5 4 = nI n from eMx.1) ?_
        refine x_aload_n (pc := 11) C 1 dX9_readNumber_11 rfl ?_
        refine g_Tape_size (pc := 12) C E q7_23 dX9_readNumber_12 ?_
        refine x_eq (show Mx 5 2 = nI n from ((eMx.2.2 5 2 (by omega)).trans hT.2.1)) ?_
        refine x_icmp_ge_t (pc := 15) C 73 dX9_readNumber_15 (by decide) (nI_le (by omega) (by omega)) ?_
        have hie : n = e := by rw [← hg]; exact (rnT_n (Nat.le_refl _)).symm
        have e4 : Mx 5 4 = nI e := eMx.1.trans (by rw [hie])
        have e6 : Mx 5 6 = nvF Y p (e - p) := eMx.2.1.trans (by rw [hie])
        refine x_aload_n (pc := 73) C 1 dX9_readNumber_73 rfl ?_
        refine x_iload_n (pc := 74) C 0 dX9_readNumber_74 rfl ?_
        refine x_iconst (pc := 75) (v := (nI 4)) C dX9_readNumber_75 (by decide) ?_
        refine x_icmp_le (pc := 76) C 83 dX9_readNumber_76 (by decide) (fun h76 => ?_) (fun h76 => ?_)
        · refine x_iconst (pc := 83) (v := 2) C dX9_readNumber_83 rfl ?_
          refine p_Tape_token (pc := 84) C E q8_5 dX9_readNumber_84 ?_
          exact x_vret (pc := 87) C X dX9_readNumber_87 ⟨rfl, ((mu_k _ _ _ _ (by decide)).trans e4), (mu_s _ _ _ _).trans (Eq.symm (if_neg (fun g => by rw [← hie] at g; exact absurd h76 (fun hh => by rw [nI_leI (by omega) (by decide)] at hh; omega)))), ((mu_k _ _ _ _ (by decide)).trans e6), (fun a b hab => (by rw [mu_at, if_neg (by omega)]; exact eMx.2.2 a b (by omega)))⟩
        · refine x_iconst (pc := 79) (v := 1) C dX9_readNumber_79 rfl ?_
          refine x_goto (pc := 80) C 84 dX9_readNumber_80 (by decide) ?_
          refine p_Tape_token (pc := 84) C E q8_5 dX9_readNumber_84 ?_
          exact x_vret (pc := 87) C X dX9_readNumber_87 ⟨rfl, ((mu_k _ _ _ _ (by decide)).trans e4), (mu_s _ _ _ _).trans (Eq.symm (if_pos (by rw [← hie]; refine Decidable.byContradiction fun g => h76 (nI_le (by omega) (by decide))))), ((mu_k _ _ _ _ (by decide)).trans e6), (fun a b hab => (by rw [mu_at, if_neg (by omega)]; exact eMx.2.2 a b (by omega)))⟩
      | succ k ih =>
        intro i y Mx  hcnt ey eMx hg hpi
        subst ey
        have hi7 : i < n := by omega
        refine x_aload_n (pc := 7) C 1 dX9_readNumber_7 rfl ?_
        refine g_Tape_next (pc := 8) C E q8_4 dX9_readNumber_8 ?_
        refine x_eq (show Mx 5 4 = nI i from eMx.1) ?_
        refine x_aload_n (pc := 11) C 1 dX9_readNumber_11 rfl ?_
        refine g_Tape_size (pc := 12) C E q7_23 dX9_readNumber_12 ?_
        refine x_eq (show Mx 5 2 = nI n from ((eMx.2.2 5 2 (by omega)).trans hT.2.1)) ?_
        refine x_icmp_ge_f (pc := 15) C 73 dX9_readNumber_15 (by decide) (nI_ge (by omega) (by omega)) ?_
        refine x_aload_n (pc := 18) C 1 dX9_readNumber_18 rfl ?_
        refine g_Tape_bytes (pc := 19) C E q3_12 dX9_readNumber_19 ?_
        refine x_aload_n (pc := 22) C 1 dX9_readNumber_22 rfl ?_
        refine g_Tape_next (pc := 23) C E q8_4 dX9_readNumber_23 ?_
        refine x_eq (show Mx 5 4 = nI i from eMx.1) ?_
        refine l_bytes (pc := 26) C E (by omega) dX9_readNumber_26 ?_
        refine x_eq (show Mx 6 i = Y i from ((eMx.2.2 6 _ (by omega)).trans (hT.2.2 _ (by omega)))) ?_
        refine x_callS (pc := 27) C E [.int (Y i)] [] (c_X9_isDigit t _ _) m_X9_isDigit q9_10 rfl (by decide) (Nat.le_of_ble_eq_true rfl) dX9_readNumber_27 rfl (k_I ?_)
        refine x_ifb_eq (pc := 30) C 73 dX9_readNumber_30 (by decide) (fun h30 => ?_) (fun h30 => ?_)
        · have hie : i = e := by rw [← hg]; exact (rnT_f (P := tDi Y) h30).symm
          have e4 : Mx 5 4 = nI e := eMx.1.trans (by rw [hie])
          have e6 : Mx 5 6 = nvF Y p (e - p) := eMx.2.1.trans (by rw [hie])
          refine x_aload_n (pc := 73) C 1 dX9_readNumber_73 rfl ?_
          refine x_iload_n (pc := 74) C 0 dX9_readNumber_74 rfl ?_
          refine x_iconst (pc := 75) (v := (nI 4)) C dX9_readNumber_75 (by decide) ?_
          refine x_icmp_le (pc := 76) C 83 dX9_readNumber_76 (by decide) (fun h76 => ?_) (fun h76 => ?_)
          · refine x_iconst (pc := 83) (v := 2) C dX9_readNumber_83 rfl ?_
            refine p_Tape_token (pc := 84) C E q8_5 dX9_readNumber_84 ?_
            exact x_vret (pc := 87) C X dX9_readNumber_87 ⟨rfl, ((mu_k _ _ _ _ (by decide)).trans e4), (mu_s _ _ _ _).trans (Eq.symm (if_neg (fun g => by rw [← hie] at g; exact absurd h76 (fun hh => by rw [nI_leI (by omega) (by decide)] at hh; omega)))), ((mu_k _ _ _ _ (by decide)).trans e6), (fun a b hab => (by rw [mu_at, if_neg (by omega)]; exact eMx.2.2 a b (by omega)))⟩
          · refine x_iconst (pc := 79) (v := 1) C dX9_readNumber_79 rfl ?_
            refine x_goto (pc := 80) C 84 dX9_readNumber_80 (by decide) ?_
            refine p_Tape_token (pc := 84) C E q8_5 dX9_readNumber_84 ?_
            exact x_vret (pc := 87) C X dX9_readNumber_87 ⟨rfl, ((mu_k _ _ _ _ (by decide)).trans e4), (mu_s _ _ _ _).trans (Eq.symm (if_pos (by rw [← hie]; refine Decidable.byContradiction fun g => h76 (nI_le (by omega) (by decide))))), ((mu_k _ _ _ _ (by decide)).trans e6), (fun a b hab => (by rw [mu_at, if_neg (by omega)]; exact eMx.2.2 a b (by omega)))⟩
        · refine x_aload_n (pc := 33) C 1 dX9_readNumber_33 rfl ?_
          refine x_aload_n (pc := 34) C 1 dX9_readNumber_34 rfl ?_
          refine g_Tape_value (pc := 35) C E q8_23 dX9_readNumber_35 ?_
          refine x_eq (show Mx 5 6 = nvF Y p (i - p) from eMx.2.1) ?_
          refine x_bipush (pc := 38) (v := 10) C dX9_readNumber_38 rfl ?_
          refine x_imul (pc := 40) C dX9_readNumber_40 ?_
          refine x_aload_n (pc := 41) C 1 dX9_readNumber_41 rfl ?_
          refine g_Tape_bytes (pc := 42) C E q3_12 dX9_readNumber_42 ?_
          refine x_aload_n (pc := 45) C 1 dX9_readNumber_45 rfl ?_
          refine g_Tape_next (pc := 46) C E q8_4 dX9_readNumber_46 ?_
          refine x_eq (show Mx 5 4 = nI i from eMx.1) ?_
          refine l_bytes (pc := 49) C E (by omega) dX9_readNumber_49 ?_
          refine x_eq (show Mx 6 i = Y i from ((eMx.2.2 6 _ (by omega)).trans (hT.2.2 _ (by omega)))) ?_
          refine x_iadd (pc := 50) C dX9_readNumber_50 ?_
          refine x_bipush (pc := 51) (v := 48) C dX9_readNumber_51 rfl ?_
          refine x_isub (pc := 53) C dX9_readNumber_53 ?_
          refine x_eq (show (((nvF Y p (i - p)) * 10) + (Y i)) - 48 = nvF Y p (i + 1 - p) from (by rw [show i + 1 - p = (i - p) + 1 by omega, nvF, show p + (i - p) = i by omega])) ?_
          refine p_Tape_value (pc := 54) C E q8_23 dX9_readNumber_54 ?_
          refine x_iinc (pc := 57) (v := nI ((i - p) + 1)) (L' := [(1, .int (nI ((i - p) + 1))), (0, .ref (t.1 5))]) C 0 dX9_readNumber_57 rfl (nI_1 _) (by decide) rfl ?_
          refine x_aload_n (pc := 60) C 1 dX9_readNumber_60 rfl ?_
          refine x_dup (pc := 61) C dX9_readNumber_61 rfl ?_
          refine g_Tape_next (pc := 62) C E q8_4 dX9_readNumber_62 ?_
          refine x_eq (show (mu Mx 5 6 (nvF Y p (i + 1 - p))) 5 4 = nI i from ((mu_k _ _ _ _ (by decide)).trans eMx.1)) ?_
          refine x_iconst (pc := 65) (v := 1) C dX9_readNumber_65 rfl ?_
          refine x_iadd (pc := 66) C dX9_readNumber_66 ?_
          refine x_eq (show (nI i) + 1 = nI (i + 1) from nI_1 _) ?_
          refine p_Tape_next (pc := 67) C E q8_4 dX9_readNumber_67 ?_
          refine x_goto (pc := 70) C 7 dX9_readNumber_70 (by decide) ?_
          refine x_sub [0, 1] rfl ?_
          exact ih (i + 1) _ _ (by omega) (by rw [show i + 1 - p = i - p + 1 by omega]) ⟨(mu_s _ _ _ _), ((mu_k _ _ _ _ (by decide)).trans (mu_s _ _ _ _)), (fun a b hab => (by rw [mu_at, if_neg (by omega), mu_at, if_neg (by omega)]; exact eMx.2.2 a b (by omega)))⟩ (by rw [← hg]; exact (rnT_t (P := tDi Y) hi7 h30).symm) (by omega)
  refine x_sub [0, 1] rfl ?_
  exact loop7 (n - p) p _ _ (by omega) (by rw [Nat.sub_self]) ⟨(mu_k _ _ _ _ (by decide)).trans h4, (mu_s _ _ _ _).trans (by rw [Nat.sub_self]; rfl), fun a b hab => by rw [mu_at, if_neg (by omega)]⟩ hE (Nat.le_refl _)

set_option maxRecDepth 100000 in
set_option maxHeartbeats 800000 in
theorem c_X9_advance (t : CT) (M : MM) {v : Value} {q a : Nat} (hX : ∀ U H, t.2.2.2 U H → txW v q a U H) (hv : v = .null ∨ ∃ z, v = .ref z) {Y : Nat → Int32} {n : Nat} (hT : TY Y n M) {x : Nat} (h4 : M 5 4 = nI x) (hxn : x ≤ n) : XMet (wC t) yX9_advance cX9_advance 1 none 8 [.ref (t.1 5)] M (fun r M' => r = none ∧ Tk Y n x M' ∧ (∀ a b, (a ≠ 5 ∨ b < 3 ∨ 6 < b) → M' a b = M a b)) := by
  refine x_met RX9 (by decide) rfl (Nat.le_of_ble_eq_true rfl) (fun κ C X E => ?_)
  refine x_L (L' := [(0, .ref (t.1 5))]) rfl ?_
  have h160 := hT.1
  have hbd := tkP_le (Y := Y) hxn
  have loop0 : ∀ (k i : Nat) (Mx : MM) , i + k = n → (Mx 5 4 = nI i ∧ ∀ a b, (a ≠ 5 ∨ b ≠ 4) → Mx a b = M a b) → rnT (tBl Y) n i = tkP Y n x → XV κ (xP (wC t) Mx) 0 [(0, .ref (t.1 5))] [] := by
    intro k
    induction k with
      | zero =>
        intro i  Mx  hcnt  eMx hg
        obtain rfl : n = i := by omega
        refine x_aload_n (pc := 0) C 0 dX9_advance_0 rfl ?_
        refine g_Tape_next (pc := 1) C E q8_4 dX9_advance_1 ?_
        refine x_eq (show Mx 5 4 = nI n from eMx.1) ?_
        refine x_aload_n (pc := 4) C 0 dX9_advance_4 rfl ?_
        refine g_Tape_size (pc := 5) C E q7_23 dX9_advance_5 ?_
        refine x_eq (show Mx 5 2 = nI n from ((eMx.2 5 2 (by omega)).trans hT.2.1)) ?_
        refine x_icmp_ge_t (pc := 8) C 52 dX9_advance_8 (by decide) (nI_le (by omega) (by omega)) ?_
        have hie : n = tkP Y n x := Eq.trans (rnT_n (Nat.le_refl _)).symm hg
        have e4 : Mx 5 4 = nI (tkP Y n x) := eMx.1.trans (congrArg nI hie)
        refine x_aload_n (pc := 52) C 0 dX9_advance_52 rfl ?_
        refine x_aload_n (pc := 53) C 0 dX9_advance_53 rfl ?_
        refine g_Tape_next (pc := 54) C E q8_4 dX9_advance_54 ?_
        refine x_eq (show Mx 5 4 = nI (tkP Y n x) from e4) ?_
        refine p_Tape_place (pc := 57) C E q8_6 dX9_advance_57 ?_
        refine x_aload_n (pc := 60) C 0 dX9_advance_60 rfl ?_
        refine g_Tape_next (pc := 61) C E q8_4 dX9_advance_61 ?_
        refine x_eq (show (mu Mx 5 3 (nI (tkP Y n x))) 5 4 = nI (tkP Y n x) from ((mu_k _ _ _ _ (by decide)).trans e4)) ?_
        refine x_aload_n (pc := 64) C 0 dX9_advance_64 rfl ?_
        refine g_Tape_size (pc := 65) C E q7_23 dX9_advance_65 ?_
        refine x_eq (show (mu Mx 5 3 (nI (tkP Y n x))) 5 2 = nI n from ((mu_k _ _ _ _ (by decide)).trans ((eMx.2 5 2 (by omega)).trans hT.2.1))) ?_
        refine x_icmp_lt_f (pc := 68) C 79 dX9_advance_68 (by decide) (nI_nlt (by omega) (by omega)) ?_
        refine x_aload_n (pc := 71) C 0 dX9_advance_71 rfl ?_
        refine x_iconst (pc := 72) (v := 0) C dX9_advance_72 rfl ?_
        refine p_Tape_token (pc := 73) C E q8_5 dX9_advance_73 ?_
        refine x_goto (pc := 76) C 165 dX9_advance_76 (by decide) ?_
        exact x_vret (pc := 165) C X dX9_advance_165 ⟨rfl, ⟨((mu_k _ _ _ _ (by decide)).trans (mu_s _ _ _ _)), (((mu_k _ _ _ _ (by decide)).trans ((mu_k _ _ _ _ (by decide)).trans e4))).trans (by rw [(tk_end (Y := Y) (x := x) (by omega)).1]), ((mu_s _ _ _ _)).trans (tk_end (Y := Y) (x := x) (by omega)).2.symm, fun hk => by rw [(tk_end (Y := Y) (x := x) (by omega)).2] at hk; exact absurd hk (by decide)⟩, (fun a b hab => (by rw [mu_at, if_neg (by omega), mu_at, if_neg (by omega)]; exact eMx.2 a b (by omega)))⟩
      | succ k ih =>
        intro i  Mx  hcnt  eMx hg
        have hi0 : i < n := by omega
        refine x_aload_n (pc := 0) C 0 dX9_advance_0 rfl ?_
        refine g_Tape_next (pc := 1) C E q8_4 dX9_advance_1 ?_
        refine x_eq (show Mx 5 4 = nI i from eMx.1) ?_
        refine x_aload_n (pc := 4) C 0 dX9_advance_4 rfl ?_
        refine g_Tape_size (pc := 5) C E q7_23 dX9_advance_5 ?_
        refine x_eq (show Mx 5 2 = nI n from ((eMx.2 5 2 (by omega)).trans hT.2.1)) ?_
        refine x_icmp_ge_f (pc := 8) C 52 dX9_advance_8 (by decide) (nI_ge (by omega) (by omega)) ?_
        refine x_aload_n (pc := 11) C 0 dX9_advance_11 rfl ?_
        refine g_Tape_bytes (pc := 12) C E q3_12 dX9_advance_12 ?_
        refine x_aload_n (pc := 15) C 0 dX9_advance_15 rfl ?_
        refine g_Tape_next (pc := 16) C E q8_4 dX9_advance_16 ?_
        refine x_eq (show Mx 5 4 = nI i from eMx.1) ?_
        refine l_bytes (pc := 19) C E (by omega) dX9_advance_19 ?_
        refine x_eq (show Mx 6 i = Y i from ((eMx.2 6 _ (by omega)).trans (hT.2.2 _ (by omega)))) ?_
        refine x_bipush (pc := 20) (v := 32) C dX9_advance_20 rfl ?_
        refine x_icmp_eq (pc := 22) C 39 dX9_advance_22 (by decide) (fun h22 => ?_) (fun h22 => ?_)
        · refine x_aload_n (pc := 39) C 0 dX9_advance_39 rfl ?_
          refine x_dup (pc := 40) C dX9_advance_40 rfl ?_
          refine g_Tape_next (pc := 41) C E q8_4 dX9_advance_41 ?_
          refine x_eq (show Mx 5 4 = nI i from eMx.1) ?_
          refine x_iconst (pc := 44) (v := 1) C dX9_advance_44 rfl ?_
          refine x_iadd (pc := 45) C dX9_advance_45 ?_
          refine x_eq (show (nI i) + 1 = nI (i + 1) from nI_1 _) ?_
          refine p_Tape_next (pc := 46) C E q8_4 dX9_advance_46 ?_
          refine x_goto (pc := 49) C 0 dX9_advance_49 (by decide) ?_
          refine x_sub [0] rfl ?_
          exact ih (i + 1) _ (by omega) ⟨mu_s _ _ _ _, (fun a b hab => (by rw [mu_at, if_neg (by omega)]; exact eMx.2 a b (by omega)))⟩ (by rw [← hg]; exact (rnT_t (P := tBl Y) hi0 (by unfold tBl; rw [decide_eq_true h22]; rfl)).symm)
        · refine x_aload_n (pc := 25) C 0 dX9_advance_25 rfl ?_
          refine g_Tape_bytes (pc := 26) C E q3_12 dX9_advance_26 ?_
          refine x_aload_n (pc := 29) C 0 dX9_advance_29 rfl ?_
          refine g_Tape_next (pc := 30) C E q8_4 dX9_advance_30 ?_
          refine x_eq (show Mx 5 4 = nI i from eMx.1) ?_
          refine l_bytes (pc := 33) C E (by omega) dX9_advance_33 ?_
          refine x_eq (show Mx 6 i = Y i from ((eMx.2 6 _ (by omega)).trans (hT.2.2 _ (by omega)))) ?_
          refine x_bipush (pc := 34) (v := 10) C dX9_advance_34 rfl ?_
          refine x_icmp_ne (pc := 36) C 52 dX9_advance_36 (by decide) (fun h36 => ?_) (fun h36 => ?_)
          · have hie : i = tkP Y n x := Eq.trans (rnT_f (P := tBl Y) (by unfold tBl; rw [decide_eq_false h22, decide_eq_false h36]; rfl)).symm hg
            have e4 : Mx 5 4 = nI (tkP Y n x) := eMx.1.trans (congrArg nI hie)
            refine x_aload_n (pc := 52) C 0 dX9_advance_52 rfl ?_
            refine x_aload_n (pc := 53) C 0 dX9_advance_53 rfl ?_
            refine g_Tape_next (pc := 54) C E q8_4 dX9_advance_54 ?_
            refine x_eq (show Mx 5 4 = nI (tkP Y n x) from e4) ?_
            refine p_Tape_place (pc := 57) C E q8_6 dX9_advance_57 ?_
            refine x_aload_n (pc := 60) C 0 dX9_advance_60 rfl ?_
            refine g_Tape_next (pc := 61) C E q8_4 dX9_advance_61 ?_
            refine x_eq (show (mu Mx 5 3 (nI (tkP Y n x))) 5 4 = nI (tkP Y n x) from ((mu_k _ _ _ _ (by decide)).trans e4)) ?_
            refine x_aload_n (pc := 64) C 0 dX9_advance_64 rfl ?_
            refine g_Tape_size (pc := 65) C E q7_23 dX9_advance_65 ?_
            refine x_eq (show (mu Mx 5 3 (nI (tkP Y n x))) 5 2 = nI n from ((mu_k _ _ _ _ (by decide)).trans ((eMx.2 5 2 (by omega)).trans hT.2.1))) ?_
            refine x_icmp_lt_t (pc := 68) C 79 dX9_advance_68 (by decide) (nI_lt (by omega) (by omega)) ?_
            have hlt : tkP Y n x < n := by omega
            have hpx : i = tkP Y n x := hie
            refine x_aload_n (pc := 79) C 0 dX9_advance_79 rfl ?_
            refine g_Tape_bytes (pc := 80) C E q3_12 dX9_advance_80 ?_
            refine x_aload_n (pc := 83) C 0 dX9_advance_83 rfl ?_
            refine g_Tape_next (pc := 84) C E q8_4 dX9_advance_84 ?_
            refine x_eq (show (mu Mx 5 3 (nI (tkP Y n x))) 5 4 = nI (tkP Y n x) from ((mu_k _ _ _ _ (by decide)).trans e4)) ?_
            refine l_bytes (pc := 87) C E (by omega) dX9_advance_87 ?_
            refine x_eq (show (mu Mx 5 3 (nI (tkP Y n x))) 6 (tkP Y n x) = Y (tkP Y n x) from ((congrFun (mu_n _ _ _ _ (by decide)) _).trans ((eMx.2 6 _ (by omega)).trans (hT.2.2 _ (by omega))))) ?_
            refine x_callS (pc := 88) C E [.int (Y (tkP Y n x))] [] (c_X9_isLetter t _ _) m_X9_isLetter q8_16 rfl (by decide) (Nat.le_of_ble_eq_true rfl) dX9_advance_88 rfl (k_I ?_)
            refine x_ifb_eq (pc := 91) C 101 dX9_advance_91 (by decide) (fun h91 => ?_) (fun h91 => ?_)
            · refine x_aload_n (pc := 101) C 0 dX9_advance_101 rfl ?_
              refine g_Tape_bytes (pc := 102) C E q3_12 dX9_advance_102 ?_
              refine x_aload_n (pc := 105) C 0 dX9_advance_105 rfl ?_
              refine g_Tape_next (pc := 106) C E q8_4 dX9_advance_106 ?_
              refine x_eq (show (mu Mx 5 3 (nI (tkP Y n x))) 5 4 = nI (tkP Y n x) from ((mu_k _ _ _ _ (by decide)).trans e4)) ?_
              refine l_bytes (pc := 109) C E (by omega) dX9_advance_109 ?_
              refine x_eq (show (mu Mx 5 3 (nI (tkP Y n x))) 6 (tkP Y n x) = Y (tkP Y n x) from ((congrFun (mu_n _ _ _ _ (by decide)) _).trans ((eMx.2 6 _ (by omega)).trans (hT.2.2 _ (by omega))))) ?_
              refine x_callS (pc := 110) C E [.int (Y (tkP Y n x))] [] (c_X9_isDigit t _ _) m_X9_isDigit q9_10 rfl (by decide) (Nat.le_of_ble_eq_true rfl) dX9_advance_110 rfl (k_I ?_)
              refine x_ifb_eq (pc := 113) C 123 dX9_advance_113 (by decide) (fun h113 => ?_) (fun h113 => ?_)
              · have g := tk_sgn (Y := Y) hlt h91 h113
                refine x_aload_n (pc := 123) C 0 dX9_advance_123 rfl ?_
                refine x_aload_n (pc := 124) C 0 dX9_advance_124 rfl ?_
                refine g_Tape_bytes (pc := 125) C E q3_12 dX9_advance_125 ?_
                refine x_aload_n (pc := 128) C 0 dX9_advance_128 rfl ?_
                refine g_Tape_next (pc := 129) C E q8_4 dX9_advance_129 ?_
                refine x_eq (show (mu Mx 5 3 (nI (tkP Y n x))) 5 4 = nI (tkP Y n x) from ((mu_k _ _ _ _ (by decide)).trans e4)) ?_
                refine l_bytes (pc := 132) C E (by omega) dX9_advance_132 ?_
                refine x_eq (show (mu Mx 5 3 (nI (tkP Y n x))) 6 (tkP Y n x) = Y (tkP Y n x) from ((congrFun (mu_n _ _ _ _ (by decide)) _).trans ((eMx.2 6 _ (by omega)).trans (hT.2.2 _ (by omega))))) ?_
                refine x_callS (pc := 133) C E [.int (Y (tkP Y n x))] [.ref (t.1 5)] (c_X9_isSign t _ _) m_X9_isSign q9_17 rfl (by decide) (Nat.le_of_ble_eq_true rfl) dX9_advance_133 rfl (k_I ?_)
                refine x_ifb_eq (pc := 136) C 151 dX9_advance_136 (by decide) (fun h136 => ?_) (fun h136 => ?_)
                · refine x_iconst (pc := 151) (v := 1) C dX9_advance_151 rfl ?_
                  refine p_Tape_token (pc := 152) C E q8_5 dX9_advance_152 ?_
                  refine x_aload_n (pc := 155) C 0 dX9_advance_155 rfl ?_
                  refine x_dup (pc := 156) C dX9_advance_156 rfl ?_
                  refine g_Tape_next (pc := 157) C E q8_4 dX9_advance_157 ?_
                  refine x_eq (show (mu (mu Mx 5 3 (nI (tkP Y n x))) 5 5 1) 5 4 = nI (tkP Y n x) from ((mu_k _ _ _ _ (by decide)).trans ((mu_k _ _ _ _ (by decide)).trans e4))) ?_
                  refine x_iconst (pc := 160) (v := 1) C dX9_advance_160 rfl ?_
                  refine x_iadd (pc := 161) C dX9_advance_161 ?_
                  refine x_eq (show (nI (tkP Y n x)) + 1 = nI (tkP Y n x + 1) from nI_1 _) ?_
                  refine p_Tape_next (pc := 162) C E q8_4 dX9_advance_162 ?_
                  exact x_vret (pc := 165) C X dX9_advance_165 ⟨rfl, ⟨((mu_k _ _ _ _ (by decide)).trans ((mu_k _ _ _ _ (by decide)).trans (mu_s _ _ _ _))), ((mu_s _ _ _ _)).trans (by rw [g.1]), (((mu_k _ _ _ _ (by decide)).trans (mu_s _ _ _ _))).trans (Eq.symm (by rw [g.2, if_neg (by rw [h136]; decide)])), (fun hk => by rw [g.2, if_neg (by rw [h136]; decide)] at hk; exact absurd hk (by decide))⟩, (fun a b hab => (by rw [mu_at, if_neg (by omega), mu_at, if_neg (by omega), mu_at, if_neg (by omega)]; exact eMx.2 a b (by omega)))⟩
                · refine x_aload_n (pc := 139) C 0 dX9_advance_139 rfl ?_
                  refine g_Tape_bytes (pc := 140) C E q3_12 dX9_advance_140 ?_
                  refine x_aload_n (pc := 143) C 0 dX9_advance_143 rfl ?_
                  refine g_Tape_next (pc := 144) C E q8_4 dX9_advance_144 ?_
                  refine x_eq (show (mu Mx 5 3 (nI (tkP Y n x))) 5 4 = nI (tkP Y n x) from ((mu_k _ _ _ _ (by decide)).trans e4)) ?_
                  refine l_bytes (pc := 147) C E (by omega) dX9_advance_147 ?_
                  refine x_eq (show (mu Mx 5 3 (nI (tkP Y n x))) 6 (tkP Y n x) = Y (tkP Y n x) from ((congrFun (mu_n _ _ _ _ (by decide)) _).trans ((eMx.2 6 _ (by omega)).trans (hT.2.2 _ (by omega))))) ?_
                  refine x_goto (pc := 148) C 152 dX9_advance_148 (by decide) ?_
                  refine p_Tape_token (pc := 152) C E q8_5 dX9_advance_152 ?_
                  refine x_aload_n (pc := 155) C 0 dX9_advance_155 rfl ?_
                  refine x_dup (pc := 156) C dX9_advance_156 rfl ?_
                  refine g_Tape_next (pc := 157) C E q8_4 dX9_advance_157 ?_
                  refine x_eq (show (mu (mu Mx 5 3 (nI (tkP Y n x))) 5 5 (Y (tkP Y n x))) 5 4 = nI (tkP Y n x) from ((mu_k _ _ _ _ (by decide)).trans ((mu_k _ _ _ _ (by decide)).trans e4))) ?_
                  refine x_iconst (pc := 160) (v := 1) C dX9_advance_160 rfl ?_
                  refine x_iadd (pc := 161) C dX9_advance_161 ?_
                  refine x_eq (show (nI (tkP Y n x)) + 1 = nI (tkP Y n x + 1) from nI_1 _) ?_
                  refine p_Tape_next (pc := 162) C E q8_4 dX9_advance_162 ?_
                  exact x_vret (pc := 165) C X dX9_advance_165 ⟨rfl, ⟨((mu_k _ _ _ _ (by decide)).trans ((mu_k _ _ _ _ (by decide)).trans (mu_s _ _ _ _))), ((mu_s _ _ _ _)).trans (by rw [g.1]), (((mu_k _ _ _ _ (by decide)).trans (mu_s _ _ _ _))).trans (Eq.symm (by rw [g.2, if_pos h136])), (fun hk => by rw [g.2, if_pos h136] at hk; have hne := cSgn_ne h136; exact absurd hk (fun e => e.elim hne.1 hne.2.1))⟩, (fun a b hab => (by rw [mu_at, if_neg (by omega), mu_at, if_neg (by omega), mu_at, if_neg (by omega)]; exact eMx.2 a b (by omega)))⟩
              · refine x_aload_n (pc := 116) C 0 dX9_advance_116 rfl ?_
                have g := tk_dig (Y := Y) hlt h91 h113
                refine x_callV (pc := 117) C E [] [] (c_X9_readNumber t _ (ty_fr hT (fun a b hab => by rw [mu_at, if_neg (by omega)]; exact eMx.2 a b (by omega))) (p := tkP Y n x) (e := tkE Y n x) ((mu_k _ _ _ _ (by decide)).trans e4) (by omega) g.1.symm) m_X9_readNumber q9_13 xo_Tape rfl (by decide) (Nat.le_of_ble_eq_true rfl) dX9_advance_117 rfl (fun r M117 hc117 => ?_)
                obtain ⟨rfl, u4, u5, u6, uF⟩ := hc117
                show XV κ (xP (wC t) M117) 120 _ []
                refine x_goto (pc := 120) C 165 dX9_advance_120 (by decide) ?_
                exact x_vret (pc := 165) C X dX9_advance_165 ⟨rfl, ⟨(uF _ _ (by omega)).trans (mu_s _ _ _ _), u4, u5.trans g.2.1.symm, (fun _ => u6.trans g.2.2.symm)⟩, (fun a b hab => by rw [uF a b (by omega), mu_at, if_neg (by omega)]; exact eMx.2 a b (by omega))⟩
            · refine x_aload_n (pc := 94) C 0 dX9_advance_94 rfl ?_
              have g := tk_let (Y := Y) hlt h91
              refine x_callV (pc := 95) C E [] [] (c_X9_readWord t _ hX hv (ty_fr hT (fun a b hab => by rw [mu_at, if_neg (by omega)]; exact eMx.2 a b (by omega))) (p := tkP Y n x) (e := tkE Y n x) (mu_s _ _ _ _) ((mu_k _ _ _ _ (by decide)).trans e4) (by omega) g.1.symm) m_X9_readWord q8_19 xo_Tape rfl (by decide) (Nat.le_of_ble_eq_true rfl) dX9_advance_95 rfl (fun r M95 hc95 => ?_)
              obtain ⟨rfl, u4, u5, u6, uF⟩ := hc95
              show XV κ (xP (wC t) M95) 98 _ []
              refine x_goto (pc := 98) C 165 dX9_advance_98 (by decide) ?_
              exact x_vret (pc := 165) C X dX9_advance_165 ⟨rfl, ⟨(uF _ _ (by omega)).trans (mu_s _ _ _ _), u4, u5.trans g.2.1.symm, (fun hk => (u6 ((wkK_ne (wdx_le _ _ _)).2.2 (by rw [← g.2.1]; exact hk.resolve_left (fun hh => (wkK_ne (wdx_le Y (tkP Y n x) (tkE Y n x))).1 (g.2.1.symm.trans hh)))).1 ((wkK_ne (wdx_le _ _ _)).2.2 (by rw [← g.2.1]; exact hk.resolve_left (fun hh => (wkK_ne (wdx_le Y (tkP Y n x) (tkE Y n x))).1 (g.2.1.symm.trans hh)))).2).trans g.2.2.symm)⟩, (fun a b hab => by rw [uF a b (by omega), mu_at, if_neg (by omega)]; exact eMx.2 a b (by omega))⟩
          · refine x_aload_n (pc := 39) C 0 dX9_advance_39 rfl ?_
            refine x_dup (pc := 40) C dX9_advance_40 rfl ?_
            refine g_Tape_next (pc := 41) C E q8_4 dX9_advance_41 ?_
            refine x_eq (show Mx 5 4 = nI i from eMx.1) ?_
            refine x_iconst (pc := 44) (v := 1) C dX9_advance_44 rfl ?_
            refine x_iadd (pc := 45) C dX9_advance_45 ?_
            refine x_eq (show (nI i) + 1 = nI (i + 1) from nI_1 _) ?_
            refine p_Tape_next (pc := 46) C E q8_4 dX9_advance_46 ?_
            refine x_goto (pc := 49) C 0 dX9_advance_49 (by decide) ?_
            refine x_sub [0] rfl ?_
            exact ih (i + 1) _ (by omega) ⟨mu_s _ _ _ _, (fun a b hab => (by rw [mu_at, if_neg (by omega)]; exact eMx.2 a b (by omega)))⟩ (by rw [← hg]; exact (rnT_t (P := tBl Y) hi0 (by unfold tBl; rw [decide_eq_true h36]; exact Bool.or_true _)).symm)
  refine x_sub [0] rfl ?_
  exact loop0 (n - x) x M (by omega) ⟨h4, fun _ _ _ => rfl⟩ rfl

