/-! THE PARSER of the reference -/
/-- text q is at hand, n bytes Y -/
def TR (Y : Nat → Int32) (n q : Nat) (M : MM) : Prop := n ≤ 160 ∧ q < 6 ∧ M 0 19 = nI (160 * q) ∧ M 0 20 = nI n ∧ ∀ k, k < n → (M 1 (160 * q + k) = Y k ∧ 0 ≤ (Y k).toInt)
def Sp (A B : MM) : Prop := ∀ a b, (a ≠ 0 ∨ b < 21 ∨ 27 < b) → B a b = A a b
theorem Sp.rf {A : MM} : Sp A A := fun _ _ _ => rfl
theorem Sp.tr {A B D : MM} (h1 : Sp A B) (h2 : Sp B D) : Sp A D := fun a b h => (h2 a b h).trans (h1 a b h)
def Sn (A B : MM) : Prop := ∀ a b, (a ≠ 0 ∨ b < 21 ∨ 24 < b) → B a b = A a b
theorem Sn.sp {A B : MM} (h : Sn A B) : Sp A B := fun a b g => h a b (by omega)
theorem tr_sp {Y : Nat → Int32} {n q : Nat} {A B : MM} (h : TR Y n q A) (hM : Sp A B) : TR Y n q B := ⟨h.1, h.2.1, (hM _ _ (by omega)).trans h.2.2.1, (hM _ _ (by omega)).trans h.2.2.2.1, fun k hk => ⟨(hM _ _ (by omega)).trans (h.2.2.2.2 k hk).1, (h.2.2.2.2 k hk).2⟩⟩
def bA (Y : Nat → Int32) (n i : Nat) : Int32 := if i < n then Y i else -1
/-- the reference's sort of token -/
def rtk (Y : Nat → Int32) (n x : Nat) : Int32 := if n ≤ tkP Y n x then nI 0 else if cLet (Y (tkP Y n x)) = true then nI 1 else if cDig (Y (tkP Y n x)) = true then (if 4 < tkE Y n x - tkP Y n x then nI 4 else nI 2) else if cSgn (Y (tkP Y n x)) = true then nI 3 else nI 4
def TkR (Y : Nat → Int32) (n x : Nat) (M : MM) : Prop := M 0 23 = nI (tkP Y n x) ∧ M 0 22 = rtk Y n x ∧ (rtk Y n x ≠ nI 4 → M 0 21 = nI (tkE Y n x)) ∧ (rtk Y n x = nI 2 → M 0 24 = tkV Y n x) ∧ (rtk Y n x = nI 3 → M 0 24 = Y (tkP Y n x))
theorem tkr_fr {Y : Nat → Int32} {n x : Nat} {A B : MM} (h : TkR Y n x A) (hM : ∀ b, 21 ≤ b → b ≤ 24 → B 0 b = A 0 b) : TkR Y n x B := ⟨(hM _ (by decide) (by decide)).trans h.1, (hM _ (by decide) (by decide)).trans h.2.1, fun g => (hM _ (by decide) (by decide)).trans (h.2.2.1 g), fun g => (hM _ (by decide) (by decide)).trans (h.2.2.2.1 g), fun g => (hM _ (by decide) (by decide)).trans (h.2.2.2.2 g)⟩
theorem rt_let {Y : Nat → Int32} {n x : Nat} (h : tkP Y n x < n) (h2 : cLet (Y (tkP Y n x)) = true) : rtk Y n x = nI 1 := by
  unfold rtk; rw [if_neg (by omega), if_pos h2]
theorem rt_end {Y : Nat → Int32} {n x : Nat} (h : n ≤ tkP Y n x) : rtk Y n x = nI 0 := by
  unfold rtk; rw [if_pos h]
theorem rt_dig {Y : Nat → Int32} {n x : Nat} (h : tkP Y n x < n) (h2 : cLet (Y (tkP Y n x)) = false) (h3 : cDig (Y (tkP Y n x)) = true) : rtk Y n x = (if 4 < tkE Y n x - tkP Y n x then nI 4 else nI 2) := by
  unfold rtk; rw [if_neg (by omega), if_neg (by rw [h2]; decide), if_pos h3]
theorem rt_sgn {Y : Nat → Int32} {n x : Nat} (h : tkP Y n x < n) (h2 : cLet (Y (tkP Y n x)) = false) (h3 : cDig (Y (tkP Y n x)) = false) : rtk Y n x = (if cSgn (Y (tkP Y n x)) = true then nI 3 else nI 4) := by
  unfold rtk; rw [if_neg (by omega), if_neg (by rw [h2]; decide), if_neg (by rw [h3]; decide)]
/-- what is told of tokens alike -/
theorem rt_sign {Y : Nat → Int32} {n x : Nat} {s : Int32} (hs : cSgn s = true) : (tkK Y n x = s ↔ rtk Y n x = nI 3 ∧ Y (tkP Y n x) = s) := by
  have hn := cSgn_ne hs
  have h1 : s ≠ 1 := fun e => by rw [e] at hs; exact absurd hs (by decide)
  have hw : ∀ w, w ≤ 12 → wkK w ≠ s := by
    intro w hw e
    rw [← e] at hs
    unfold wkK at hs
    rcases (by omega : w = 0 ∨ w = 1 ∨ w = 2 ∨ w = 3 ∨ w = 4 ∨ w = 5 ∨ w = 6 ∨ w = 7 ∨ w = 8 ∨ w = 9 ∨ w = 10 ∨ w = 11 ∨ w = 12) with rfl | rfl | rfl | rfl | rfl | rfl | rfl | rfl | rfl | rfl | rfl | rfl | rfl <;> exact absurd hs (by decide)
  unfold tkK rtk
  split
  · exact ⟨fun e => absurd e.symm hn.2.2, fun e => absurd e.1 (by decide)⟩
  · split
    · exact ⟨fun e => absurd e (hw _ (wdx_le _ _ _)), fun e => absurd e.1 (by decide)⟩
    · split
      · split
        · exact ⟨fun e => absurd e.symm h1, fun e => absurd e.1 (by decide)⟩
        · exact ⟨fun e => absurd e.symm hn.1, fun e => absurd e.1 (by decide)⟩
      · split
        · exact ⟨fun e => ⟨rfl, e⟩, fun e => e.2⟩
        · exact ⟨fun e => absurd e.symm h1, fun e => absurd e.1 (by decide)⟩
theorem wd_uni : ∀ j, j < 12 → ∀ k, k < 12 → j ≠ k → wln j = wln k → ∃ i, i < wln j ∧ wbB (wst j + i) ≠ wbB (wst k + i) := by decide +kernel
theorem wis_iff {Y : Nat → Int32} {p e j : Nat} : wis Y p e j = true ↔ (e = p + wln j ∧ ∀ i, i < wln j → wbB (wst j + i) = Y (p + i)) := by
  unfold wis
  rw [Bool.and_eq_true]
  constructor
  · rintro ⟨h1, h2⟩
    refine ⟨of_decide_eq_true h1, fun i hi => ?_⟩
    have h3 : anyN (fun i => !decide (wbB (wst j + i) = Y (p + i))) (wln j) = false := by
      cases g : anyN (fun i => !decide (wbB (wst j + i) = Y (p + i))) (wln j) with
      | false => rfl
      | true => rw [g] at h2; cases h2
    have h4 := anyN_f h3 hi
    simpa using h4
  · rintro ⟨h1, h2⟩
    refine ⟨decide_eq_true h1, ?_⟩
    cases g : anyN (fun i => !decide (wbB (wst j + i) = Y (p + i))) (wln j) with
    | false => rfl
    | true =>
      obtain ⟨i, hi, h3⟩ := anyN_of g
      rw [decide_eq_true (h2 i hi)] at h3
      cases h3
theorem wis_uni {Y : Nat → Int32} {p e j k : Nat} (hj : j < 12) (hk : k < 12) (h1 : wis Y p e j = true) (h2 : wis Y p e k = true) : j = k := by
  refine Decidable.byContradiction fun hn => ?_
  obtain ⟨a1, a2⟩ := wis_iff.mp h1
  obtain ⟨b1, b2⟩ := wis_iff.mp h2
  obtain ⟨i, hi, hne⟩ := wd_uni j hj k hk hn (by omega)
  exact hne ((a2 i hi).trans (b2 i (by omega)).symm)
theorem wdF_iff {Y : Nat → Int32} {p e j : Nat} (hj : j < 12) (h : wis Y p e j = true) : ∀ c k, c + k = 12 → k ≤ j → wdF Y p e c k = j := by
  intro c
  induction c with
  | zero => intro k hk h2; omega
  | succ c ih =>
    intro k hk h2
    rw [wdF]
    split
    · rename_i g
      exact wis_uni (by omega) hj g h
    · rename_i g
      exact ih (k + 1) (by omega) (by
        have : k ≠ j := fun e2 => g (e2 ▸ h)
        omega)
theorem wdF_is {Y : Nat → Int32} {p e : Nat} : ∀ c k, c + k = 12 → wdF Y p e c k < 12 → wis Y p e (wdF Y p e c k) = true := by
  intro c
  induction c with
  | zero => intro k hk h; exact absurd (show (12 : Nat) < 12 from h) (by decide)
  | succ c ih =>
    intro k hk h
    rw [wdF] at h ⊢
    split
    · rename_i g; exact g
    · rename_i g
      rw [if_neg g] at h
      exact ih (k + 1) (by omega) h
theorem wdx_iff {Y : Nat → Int32} {p e j : Nat} (hj : j < 12) : wis Y p e j = decide (wdx Y p e = j) := by
  by_cases h : wis Y p e j = true
  · rw [h, decide_eq_true]
    exact wdF_iff hj h 12 0 rfl (Nat.zero_le _)
  · rw [decide_eq_false]
    · cases g : wis Y p e j with
      | true => exact absurd g h
      | false => rfl
    · intro e2
      apply h
      have := wdF_is (Y := Y) (p := p) (e := e) 12 0 rfl (by show wdx Y p e < 12; omega)
      show wis Y p e j = true
      rw [← e2]
      exact this
set_option maxRecDepth 100000 in
set_option maxHeartbeats 800000 in
theorem c_X12_byteAt (t : CT) {M : MM} {Y : Nat → Int32} {n q : Nat} (hR : TR Y n q M) {x : Nat} (hx : x < 1000) : XMet (wR t) yX12_byteAt cX12_byteAt 2 (some .int) 1 [.ref (t.1 0), .int (nI x)] M (rI (bA Y n x) M) := by
  refine x_met RX12 (by decide) rfl (Nat.le_of_ble_eq_true rfl) (fun κ C X E => ?_)
  refine x_L (L' := [(0, .ref (t.1 0)), (1, .int (nI x))]) rfl ?_
  have h160 := hR.1
  have hq6 := hR.2.1
  refine x_iload_n (pc := 0) C 1 dX12_byteAt_0 rfl ?_
  refine x_aload_n (pc := 1) C 0 dX12_byteAt_1 rfl ?_
  refine g_M_size (pc := 2) C E q15_8 dX12_byteAt_2 ?_
  refine x_eq (show M 0 20 = nI n from hR.2.2.2.1) ?_
  refine x_icmp_ge (pc := 5) C 22 dX12_byteAt_5 (by decide) (fun h5 => ?_) (fun h5 => ?_)
  · have hlt : ¬ x < n := fun g => absurd h5 (nI_ge g (by omega))
    refine x_iconst (pc := 22) (v := (-1)) C dX12_byteAt_22 rfl ?_
    exact x_iret (pc := 23) C X dX12_byteAt_23 (rI_i (by unfold bA; rw [if_neg hlt]))
  · have hlt : x < n := Nat.lt_of_not_le (fun g => h5 (nI_le g (by omega)))
    refine x_aload_n (pc := 8) C 0 dX12_byteAt_8 rfl ?_
    refine g_M_texts (pc := 9) C E q11_12 dX12_byteAt_9 ?_
    refine x_aload_n (pc := 12) C 0 dX12_byteAt_12 rfl ?_
    refine g_M_from (pc := 13) C E q15_7 dX12_byteAt_13 ?_
    refine x_eq (show M 0 19 = nI (160 * q) from hR.2.2.1) ?_
    refine x_iload_n (pc := 16) C 1 dX12_byteAt_16 rfl ?_
    refine x_iadd (pc := 17) C dX12_byteAt_17 ?_
    refine x_eq (show (nI (160 * q)) + (nI x) = nI (160 * q + x) from nI_add _ _) ?_
    refine l_Rtexts (pc := 18) C E (by omega) dX12_byteAt_18 ?_
    refine x_eq (show M 1 (160 * q + x) = Y x from (hR.2.2.2.2 x (by omega)).1) ?_
    refine x_goto (pc := 19) C 23 dX12_byteAt_19 (by decide) ?_
    exact x_iret (pc := 23) C X dX12_byteAt_23 (rI_i (by unfold bA; rw [if_pos hlt]))

