section XINST
variable {κ : XK} {own : String} {cc : ByteArray} {n d : Nat} {w : XW} {M : MM} {pc : Nat} {L : List (Nat × Value)} {st : List Value}
theorem x_instN (C : XC κ own cc n d) (E : XE κ w) {nm index : Nat} {CN tg : String} (ho : xo w nm CN) (hlink : Cond.classLink own index tg ∈ wsL_law) (hc : ∀ (U : State) (H : Heap), xX w U H → va_Nc CN tg U) (hd : decode cc pc = .ok (.instanceof index, 3))
    (k : XV κ (xP w M) (pc + 3) L (.int 0 :: st)) : XV κ (xP w M) pc L (.ref (w.2.2.1 nm) :: st) := by
  obtain ⟨p, l, e, R, s, m, args, below, meth, c, Q, A, nL, cells, slots⟩ := κ
  intro H locs ls hI hS hl
  exact va_instNo C.1 C.2.1 C.2.2.2.1 (C.2.2.2.2.1 _ hlink) (hc s H (E.2.2.2.1 s H locs (State.WarmedH.refl s) hS)) (x_recv ho E.1 hI) hd (k H locs ls hI hS hl)
theorem x_instY (C : XC κ own cc n d) (E : XE κ w) {nm index : Nat} {CN tg : String} (ho : xo w nm CN) (hlink : Cond.classLink own index tg ∈ wsL_law) (hc : ∀ (U : State) (H : Heap), xX w U H → va_Nw (.castable CN tg) U) (hd : decode cc pc = .ok (.instanceof index, 3))
    (k : XV κ (xP w M) (pc + 3) L (.int 1 :: st)) : XV κ (xP w M) pc L (.ref (w.2.2.1 nm) :: st) := by
  obtain ⟨p, l, e, R, s, m, args, below, meth, c, Q, A, nL, cells, slots⟩ := κ
  intro H locs ls hI hS hl
  exact va_instY C.1 C.2.1 C.2.2.2.1 (C.2.2.2.2.1 _ hlink) (hc s H (E.2.2.2.1 s H locs (State.WarmedH.refl s) hS)) (x_recv ho E.1 hI) hd (k H locs ls hI hS hl)
theorem x_instS (C : XC κ own cc n d) (E : XE κ w) {nm index : Nat} {tg : String} (ho : xo w nm tg) (hlink : Cond.classLink own index tg ∈ wsL_law) (hc : ∀ (U : State) (H : Heap), xX w U H → ∃ c, ClassAt U tg c) (hd : decode cc pc = .ok (.instanceof index, 3))
    (k : XV κ (xP w M) (pc + 3) L (.int 1 :: st)) : XV κ (xP w M) pc L (.ref (w.2.2.1 nm) :: st) := by
  obtain ⟨p, l, e, R, s, m, args, below, meth, c, Q, A, nL, cells, slots⟩ := κ
  intro H locs ls hI hS hl
  obtain ⟨cC, hC⟩ := hc s H (E.2.2.2.1 s H locs (State.WarmedH.refl s) hS)
  exact va_instS C.1 C.2.1 C.2.2.2.1 (C.2.2.2.2.1 _ hlink) hC (x_recv ho E.1 hI) hd (k H locs ls hI hS hl)
end XINST

def iuN : List (String × String) := [(RX3, RX0), (RX3, RX1), (RX3, RX4), (RX3, RX7), (RX3, RX5), (RX0, RX1), (RX0, RX4), (RX0, RX7), (RX0, RX5), (RX1, RX0), (RX1, RX4), (RX1, RX7), (RX1, RX5), (RX4, RX1), (RX4, RX7), (RX4, RX5), (RX7, RX0), (RX7, RX4), (RX7, RX5), (RX5, RX0), (RX5, RX1), (RX5, RX4), (RX5, RX7)]
def iuY : List (String × String) := [(RX4, RX0), (RX7, RX1)]
def iuS : List String := [RX0, RX1, RX4, RX7, RX5]
/-- which kind's class is under which -/
def iuF (U : State) : Prop := (∀ q ∈ iuN, va_Nc q.1 q.2 U) ∧ (∀ q ∈ iuY, va_Nw (.castable q.1 q.2) U) ∧ ∀ q ∈ iuS, ∃ c, ClassAt U q c
def iuX (k : Nat) (x : Int32) : Bool := !(decide (1 ≤ x.toInt ∧ x.toInt ≤ 5)) || decide (x = nI k) || (decide (x = 1) && decide (k = 3)) || (decide (x = 2) && decide (k = 4))
set_option maxRecDepth 100000 in
set_option maxHeartbeats 800000 in
theorem c_isUnder_0 (t : CT) (M : MM) (hu : ∀ (U : State) (H : Heap), t.2.2.2 U H → iuF U) (x2 : Int32) : XMet (wC t) yX11_isUnder cX11_isUnder 2 (some .boolean) 1 [.ref (t.1 (13 + 0)), .int x2] M (rI (b2i (iuX 0 x2)) M) := by
  refine x_met RX11 (by decide) rfl (Nat.le_of_ble_eq_true rfl) (fun κ C X E => ?_)
  refine x_L (L' := [(0, .ref (t.1 (13 + 0))), (1, .int x2)]) rfl ?_
  refine x_iload_n (pc := 0) C 1 dX11_isUnder_0 rfl ?_
  by_cases h9 : x2.toInt = 1 ∨ x2.toInt = 2 ∨ x2.toInt = 3 ∨ x2.toInt = 4 ∨ x2.toInt = 5
  · rcases h9 with h9 | h9 | h9 | h9 | h9
    · obtain rfl : x2 = 1 := i_eq.mpr h9
      refine x_tableIn (pc := 1) C 36 dX11_isUnder_1 (by decide) (by decide) rfl (by decide) ?_
      refine x_aload_n (pc := 36) C 0 dX11_isUnder_36 rfl ?_
      refine x_instN (pc := 37) (nm := 13) (CN := RX3) (tg := RX0) C E xo_kind0 q2_10 (fun U H hx => (hu U H hx).1 (RX3, RX0) (by simp [iuN])) dX11_isUnder_37 ?_
      exact x_bret (pc := 40) C X (b := false) rfl dX11_isUnder_40 (rI_b (by first | decide | rfl))
    · obtain rfl : x2 = 2 := i_eq.mpr h9
      refine x_tableIn (pc := 1) C 41 dX11_isUnder_1 (by decide) (by decide) rfl (by decide) ?_
      refine x_aload_n (pc := 41) C 0 dX11_isUnder_41 rfl ?_
      refine x_instN (pc := 42) (nm := 13) (CN := RX3) (tg := RX1) C E xo_kind0 q2_13 (fun U H hx => (hu U H hx).1 (RX3, RX1) (by simp [iuN])) dX11_isUnder_42 ?_
      exact x_bret (pc := 45) C X (b := false) rfl dX11_isUnder_45 (rI_b (by first | decide | rfl))
    · obtain rfl : x2 = 3 := i_eq.mpr h9
      refine x_tableIn (pc := 1) C 46 dX11_isUnder_1 (by decide) (by decide) rfl (by decide) ?_
      refine x_aload_n (pc := 46) C 0 dX11_isUnder_46 rfl ?_
      refine x_instN (pc := 47) (nm := 13) (CN := RX3) (tg := RX4) C E xo_kind0 q2_16 (fun U H hx => (hu U H hx).1 (RX3, RX4) (by simp [iuN])) dX11_isUnder_47 ?_
      exact x_bret (pc := 50) C X (b := false) rfl dX11_isUnder_50 (rI_b (by first | decide | rfl))
    · obtain rfl : x2 = 4 := i_eq.mpr h9
      refine x_tableIn (pc := 1) C 51 dX11_isUnder_1 (by decide) (by decide) rfl (by decide) ?_
      refine x_aload_n (pc := 51) C 0 dX11_isUnder_51 rfl ?_
      refine x_instN (pc := 52) (nm := 13) (CN := RX3) (tg := RX7) C E xo_kind0 q2_19 (fun U H hx => (hu U H hx).1 (RX3, RX7) (by simp [iuN])) dX11_isUnder_52 ?_
      exact x_bret (pc := 55) C X (b := false) rfl dX11_isUnder_55 (rI_b (by first | decide | rfl))
    · obtain rfl : x2 = 5 := i_eq.mpr h9
      refine x_tableIn (pc := 1) C 56 dX11_isUnder_1 (by decide) (by decide) rfl (by decide) ?_
      refine x_aload_n (pc := 56) C 0 dX11_isUnder_56 rfl ?_
      refine x_instN (pc := 57) (nm := 13) (CN := RX3) (tg := RX5) C E xo_kind0 q2_22 (fun U H hx => (hu U H hx).1 (RX3, RX5) (by simp [iuN])) dX11_isUnder_57 ?_
      exact x_bret (pc := 60) C X (b := false) rfl dX11_isUnder_60 (rI_b (by first | decide | rfl))
  · refine x_tableOut (pc := 1) C 61 dX11_isUnder_1 (by omega) (by decide) ?_
    refine x_iconst (pc := 61) (v := 1) C dX11_isUnder_61 rfl ?_
    exact x_bret (pc := 62) C X (b := true) rfl dX11_isUnder_62 (rI_b (by unfold iuX; rw [decide_eq_false (by omega)]; rfl))

set_option maxRecDepth 100000 in
set_option maxHeartbeats 800000 in
theorem c_isUnder_1 (t : CT) (M : MM) (hu : ∀ (U : State) (H : Heap), t.2.2.2 U H → iuF U) (x2 : Int32) : XMet (wC t) yX11_isUnder cX11_isUnder 2 (some .boolean) 1 [.ref (t.1 (13 + 1)), .int x2] M (rI (b2i (iuX 1 x2)) M) := by
  refine x_met RX11 (by decide) rfl (Nat.le_of_ble_eq_true rfl) (fun κ C X E => ?_)
  refine x_L (L' := [(0, .ref (t.1 (13 + 1))), (1, .int x2)]) rfl ?_
  refine x_iload_n (pc := 0) C 1 dX11_isUnder_0 rfl ?_
  by_cases h9 : x2.toInt = 1 ∨ x2.toInt = 2 ∨ x2.toInt = 3 ∨ x2.toInt = 4 ∨ x2.toInt = 5
  · rcases h9 with h9 | h9 | h9 | h9 | h9
    · obtain rfl : x2 = 1 := i_eq.mpr h9
      refine x_tableIn (pc := 1) C 36 dX11_isUnder_1 (by decide) (by decide) rfl (by decide) ?_
      refine x_aload_n (pc := 36) C 0 dX11_isUnder_36 rfl ?_
      refine x_instS (pc := 37) (nm := 14) (tg := RX0) C E xo_kind1 q2_10 (fun U H hx => (hu U H hx).2.2 RX0 (by simp [iuS])) dX11_isUnder_37 ?_
      exact x_bret (pc := 40) C X (b := true) rfl dX11_isUnder_40 (rI_b (by first | decide | rfl))
    · obtain rfl : x2 = 2 := i_eq.mpr h9
      refine x_tableIn (pc := 1) C 41 dX11_isUnder_1 (by decide) (by decide) rfl (by decide) ?_
      refine x_aload_n (pc := 41) C 0 dX11_isUnder_41 rfl ?_
      refine x_instN (pc := 42) (nm := 14) (CN := RX0) (tg := RX1) C E xo_kind1 q2_13 (fun U H hx => (hu U H hx).1 (RX0, RX1) (by simp [iuN])) dX11_isUnder_42 ?_
      exact x_bret (pc := 45) C X (b := false) rfl dX11_isUnder_45 (rI_b (by first | decide | rfl))
    · obtain rfl : x2 = 3 := i_eq.mpr h9
      refine x_tableIn (pc := 1) C 46 dX11_isUnder_1 (by decide) (by decide) rfl (by decide) ?_
      refine x_aload_n (pc := 46) C 0 dX11_isUnder_46 rfl ?_
      refine x_instN (pc := 47) (nm := 14) (CN := RX0) (tg := RX4) C E xo_kind1 q2_16 (fun U H hx => (hu U H hx).1 (RX0, RX4) (by simp [iuN])) dX11_isUnder_47 ?_
      exact x_bret (pc := 50) C X (b := false) rfl dX11_isUnder_50 (rI_b (by first | decide | rfl))
    · obtain rfl : x2 = 4 := i_eq.mpr h9
      refine x_tableIn (pc := 1) C 51 dX11_isUnder_1 (by decide) (by decide) rfl (by decide) ?_
      refine x_aload_n (pc := 51) C 0 dX11_isUnder_51 rfl ?_
      refine x_instN (pc := 52) (nm := 14) (CN := RX0) (tg := RX7) C E xo_kind1 q2_19 (fun U H hx => (hu U H hx).1 (RX0, RX7) (by simp [iuN])) dX11_isUnder_52 ?_
      exact x_bret (pc := 55) C X (b := false) rfl dX11_isUnder_55 (rI_b (by first | decide | rfl))
    · obtain rfl : x2 = 5 := i_eq.mpr h9
      refine x_tableIn (pc := 1) C 56 dX11_isUnder_1 (by decide) (by decide) rfl (by decide) ?_
      refine x_aload_n (pc := 56) C 0 dX11_isUnder_56 rfl ?_
      refine x_instN (pc := 57) (nm := 14) (CN := RX0) (tg := RX5) C E xo_kind1 q2_22 (fun U H hx => (hu U H hx).1 (RX0, RX5) (by simp [iuN])) dX11_isUnder_57 ?_
      exact x_bret (pc := 60) C X (b := false) rfl dX11_isUnder_60 (rI_b (by first | decide | rfl))
  · refine x_tableOut (pc := 1) C 61 dX11_isUnder_1 (by omega) (by decide) ?_
    refine x_iconst (pc := 61) (v := 1) C dX11_isUnder_61 rfl ?_
    exact x_bret (pc := 62) C X (b := true) rfl dX11_isUnder_62 (rI_b (by unfold iuX; rw [decide_eq_false (by omega)]; rfl))

set_option maxRecDepth 100000 in
set_option maxHeartbeats 800000 in
theorem c_isUnder_2 (t : CT) (M : MM) (hu : ∀ (U : State) (H : Heap), t.2.2.2 U H → iuF U) (x2 : Int32) : XMet (wC t) yX11_isUnder cX11_isUnder 2 (some .boolean) 1 [.ref (t.1 (13 + 2)), .int x2] M (rI (b2i (iuX 2 x2)) M) := by
  refine x_met RX11 (by decide) rfl (Nat.le_of_ble_eq_true rfl) (fun κ C X E => ?_)
  refine x_L (L' := [(0, .ref (t.1 (13 + 2))), (1, .int x2)]) rfl ?_
  refine x_iload_n (pc := 0) C 1 dX11_isUnder_0 rfl ?_
  by_cases h9 : x2.toInt = 1 ∨ x2.toInt = 2 ∨ x2.toInt = 3 ∨ x2.toInt = 4 ∨ x2.toInt = 5
  · rcases h9 with h9 | h9 | h9 | h9 | h9
    · obtain rfl : x2 = 1 := i_eq.mpr h9
      refine x_tableIn (pc := 1) C 36 dX11_isUnder_1 (by decide) (by decide) rfl (by decide) ?_
      refine x_aload_n (pc := 36) C 0 dX11_isUnder_36 rfl ?_
      refine x_instN (pc := 37) (nm := 15) (CN := RX1) (tg := RX0) C E xo_kind2 q2_10 (fun U H hx => (hu U H hx).1 (RX1, RX0) (by simp [iuN])) dX11_isUnder_37 ?_
      exact x_bret (pc := 40) C X (b := false) rfl dX11_isUnder_40 (rI_b (by first | decide | rfl))
    · obtain rfl : x2 = 2 := i_eq.mpr h9
      refine x_tableIn (pc := 1) C 41 dX11_isUnder_1 (by decide) (by decide) rfl (by decide) ?_
      refine x_aload_n (pc := 41) C 0 dX11_isUnder_41 rfl ?_
      refine x_instS (pc := 42) (nm := 15) (tg := RX1) C E xo_kind2 q2_13 (fun U H hx => (hu U H hx).2.2 RX1 (by simp [iuS])) dX11_isUnder_42 ?_
      exact x_bret (pc := 45) C X (b := true) rfl dX11_isUnder_45 (rI_b (by first | decide | rfl))
    · obtain rfl : x2 = 3 := i_eq.mpr h9
      refine x_tableIn (pc := 1) C 46 dX11_isUnder_1 (by decide) (by decide) rfl (by decide) ?_
      refine x_aload_n (pc := 46) C 0 dX11_isUnder_46 rfl ?_
      refine x_instN (pc := 47) (nm := 15) (CN := RX1) (tg := RX4) C E xo_kind2 q2_16 (fun U H hx => (hu U H hx).1 (RX1, RX4) (by simp [iuN])) dX11_isUnder_47 ?_
      exact x_bret (pc := 50) C X (b := false) rfl dX11_isUnder_50 (rI_b (by first | decide | rfl))
    · obtain rfl : x2 = 4 := i_eq.mpr h9
      refine x_tableIn (pc := 1) C 51 dX11_isUnder_1 (by decide) (by decide) rfl (by decide) ?_
      refine x_aload_n (pc := 51) C 0 dX11_isUnder_51 rfl ?_
      refine x_instN (pc := 52) (nm := 15) (CN := RX1) (tg := RX7) C E xo_kind2 q2_19 (fun U H hx => (hu U H hx).1 (RX1, RX7) (by simp [iuN])) dX11_isUnder_52 ?_
      exact x_bret (pc := 55) C X (b := false) rfl dX11_isUnder_55 (rI_b (by first | decide | rfl))
    · obtain rfl : x2 = 5 := i_eq.mpr h9
      refine x_tableIn (pc := 1) C 56 dX11_isUnder_1 (by decide) (by decide) rfl (by decide) ?_
      refine x_aload_n (pc := 56) C 0 dX11_isUnder_56 rfl ?_
      refine x_instN (pc := 57) (nm := 15) (CN := RX1) (tg := RX5) C E xo_kind2 q2_22 (fun U H hx => (hu U H hx).1 (RX1, RX5) (by simp [iuN])) dX11_isUnder_57 ?_
      exact x_bret (pc := 60) C X (b := false) rfl dX11_isUnder_60 (rI_b (by first | decide | rfl))
  · refine x_tableOut (pc := 1) C 61 dX11_isUnder_1 (by omega) (by decide) ?_
    refine x_iconst (pc := 61) (v := 1) C dX11_isUnder_61 rfl ?_
    exact x_bret (pc := 62) C X (b := true) rfl dX11_isUnder_62 (rI_b (by unfold iuX; rw [decide_eq_false (by omega)]; rfl))

set_option maxRecDepth 100000 in
set_option maxHeartbeats 800000 in
theorem c_isUnder_3 (t : CT) (M : MM) (hu : ∀ (U : State) (H : Heap), t.2.2.2 U H → iuF U) (x2 : Int32) : XMet (wC t) yX11_isUnder cX11_isUnder 2 (some .boolean) 1 [.ref (t.1 (13 + 3)), .int x2] M (rI (b2i (iuX 3 x2)) M) := by
  refine x_met RX11 (by decide) rfl (Nat.le_of_ble_eq_true rfl) (fun κ C X E => ?_)
  refine x_L (L' := [(0, .ref (t.1 (13 + 3))), (1, .int x2)]) rfl ?_
  refine x_iload_n (pc := 0) C 1 dX11_isUnder_0 rfl ?_
  by_cases h9 : x2.toInt = 1 ∨ x2.toInt = 2 ∨ x2.toInt = 3 ∨ x2.toInt = 4 ∨ x2.toInt = 5
  · rcases h9 with h9 | h9 | h9 | h9 | h9
    · obtain rfl : x2 = 1 := i_eq.mpr h9
      refine x_tableIn (pc := 1) C 36 dX11_isUnder_1 (by decide) (by decide) rfl (by decide) ?_
      refine x_aload_n (pc := 36) C 0 dX11_isUnder_36 rfl ?_
      refine x_instY (pc := 37) (nm := 16) (CN := RX4) (tg := RX0) C E xo_kind3 q2_10 (fun U H hx => (hu U H hx).2.1 (RX4, RX0) (by simp [iuY])) dX11_isUnder_37 ?_
      exact x_bret (pc := 40) C X (b := true) rfl dX11_isUnder_40 (rI_b (by first | decide | rfl))
    · obtain rfl : x2 = 2 := i_eq.mpr h9
      refine x_tableIn (pc := 1) C 41 dX11_isUnder_1 (by decide) (by decide) rfl (by decide) ?_
      refine x_aload_n (pc := 41) C 0 dX11_isUnder_41 rfl ?_
      refine x_instN (pc := 42) (nm := 16) (CN := RX4) (tg := RX1) C E xo_kind3 q2_13 (fun U H hx => (hu U H hx).1 (RX4, RX1) (by simp [iuN])) dX11_isUnder_42 ?_
      exact x_bret (pc := 45) C X (b := false) rfl dX11_isUnder_45 (rI_b (by first | decide | rfl))
    · obtain rfl : x2 = 3 := i_eq.mpr h9
      refine x_tableIn (pc := 1) C 46 dX11_isUnder_1 (by decide) (by decide) rfl (by decide) ?_
      refine x_aload_n (pc := 46) C 0 dX11_isUnder_46 rfl ?_
      refine x_instS (pc := 47) (nm := 16) (tg := RX4) C E xo_kind3 q2_16 (fun U H hx => (hu U H hx).2.2 RX4 (by simp [iuS])) dX11_isUnder_47 ?_
      exact x_bret (pc := 50) C X (b := true) rfl dX11_isUnder_50 (rI_b (by first | decide | rfl))
    · obtain rfl : x2 = 4 := i_eq.mpr h9
      refine x_tableIn (pc := 1) C 51 dX11_isUnder_1 (by decide) (by decide) rfl (by decide) ?_
      refine x_aload_n (pc := 51) C 0 dX11_isUnder_51 rfl ?_
      refine x_instN (pc := 52) (nm := 16) (CN := RX4) (tg := RX7) C E xo_kind3 q2_19 (fun U H hx => (hu U H hx).1 (RX4, RX7) (by simp [iuN])) dX11_isUnder_52 ?_
      exact x_bret (pc := 55) C X (b := false) rfl dX11_isUnder_55 (rI_b (by first | decide | rfl))
    · obtain rfl : x2 = 5 := i_eq.mpr h9
      refine x_tableIn (pc := 1) C 56 dX11_isUnder_1 (by decide) (by decide) rfl (by decide) ?_
      refine x_aload_n (pc := 56) C 0 dX11_isUnder_56 rfl ?_
      refine x_instN (pc := 57) (nm := 16) (CN := RX4) (tg := RX5) C E xo_kind3 q2_22 (fun U H hx => (hu U H hx).1 (RX4, RX5) (by simp [iuN])) dX11_isUnder_57 ?_
      exact x_bret (pc := 60) C X (b := false) rfl dX11_isUnder_60 (rI_b (by first | decide | rfl))
  · refine x_tableOut (pc := 1) C 61 dX11_isUnder_1 (by omega) (by decide) ?_
    refine x_iconst (pc := 61) (v := 1) C dX11_isUnder_61 rfl ?_
    exact x_bret (pc := 62) C X (b := true) rfl dX11_isUnder_62 (rI_b (by unfold iuX; rw [decide_eq_false (by omega)]; rfl))

set_option maxRecDepth 100000 in
set_option maxHeartbeats 800000 in
theorem c_isUnder_4 (t : CT) (M : MM) (hu : ∀ (U : State) (H : Heap), t.2.2.2 U H → iuF U) (x2 : Int32) : XMet (wC t) yX11_isUnder cX11_isUnder 2 (some .boolean) 1 [.ref (t.1 (13 + 4)), .int x2] M (rI (b2i (iuX 4 x2)) M) := by
  refine x_met RX11 (by decide) rfl (Nat.le_of_ble_eq_true rfl) (fun κ C X E => ?_)
  refine x_L (L' := [(0, .ref (t.1 (13 + 4))), (1, .int x2)]) rfl ?_
  refine x_iload_n (pc := 0) C 1 dX11_isUnder_0 rfl ?_
  by_cases h9 : x2.toInt = 1 ∨ x2.toInt = 2 ∨ x2.toInt = 3 ∨ x2.toInt = 4 ∨ x2.toInt = 5
  · rcases h9 with h9 | h9 | h9 | h9 | h9
    · obtain rfl : x2 = 1 := i_eq.mpr h9
      refine x_tableIn (pc := 1) C 36 dX11_isUnder_1 (by decide) (by decide) rfl (by decide) ?_
      refine x_aload_n (pc := 36) C 0 dX11_isUnder_36 rfl ?_
      refine x_instN (pc := 37) (nm := 17) (CN := RX7) (tg := RX0) C E xo_kind4 q2_10 (fun U H hx => (hu U H hx).1 (RX7, RX0) (by simp [iuN])) dX11_isUnder_37 ?_
      exact x_bret (pc := 40) C X (b := false) rfl dX11_isUnder_40 (rI_b (by first | decide | rfl))
    · obtain rfl : x2 = 2 := i_eq.mpr h9
      refine x_tableIn (pc := 1) C 41 dX11_isUnder_1 (by decide) (by decide) rfl (by decide) ?_
      refine x_aload_n (pc := 41) C 0 dX11_isUnder_41 rfl ?_
      refine x_instY (pc := 42) (nm := 17) (CN := RX7) (tg := RX1) C E xo_kind4 q2_13 (fun U H hx => (hu U H hx).2.1 (RX7, RX1) (by simp [iuY])) dX11_isUnder_42 ?_
      exact x_bret (pc := 45) C X (b := true) rfl dX11_isUnder_45 (rI_b (by first | decide | rfl))
    · obtain rfl : x2 = 3 := i_eq.mpr h9
      refine x_tableIn (pc := 1) C 46 dX11_isUnder_1 (by decide) (by decide) rfl (by decide) ?_
      refine x_aload_n (pc := 46) C 0 dX11_isUnder_46 rfl ?_
      refine x_instN (pc := 47) (nm := 17) (CN := RX7) (tg := RX4) C E xo_kind4 q2_16 (fun U H hx => (hu U H hx).1 (RX7, RX4) (by simp [iuN])) dX11_isUnder_47 ?_
      exact x_bret (pc := 50) C X (b := false) rfl dX11_isUnder_50 (rI_b (by first | decide | rfl))
    · obtain rfl : x2 = 4 := i_eq.mpr h9
      refine x_tableIn (pc := 1) C 51 dX11_isUnder_1 (by decide) (by decide) rfl (by decide) ?_
      refine x_aload_n (pc := 51) C 0 dX11_isUnder_51 rfl ?_
      refine x_instS (pc := 52) (nm := 17) (tg := RX7) C E xo_kind4 q2_19 (fun U H hx => (hu U H hx).2.2 RX7 (by simp [iuS])) dX11_isUnder_52 ?_
      exact x_bret (pc := 55) C X (b := true) rfl dX11_isUnder_55 (rI_b (by first | decide | rfl))
    · obtain rfl : x2 = 5 := i_eq.mpr h9
      refine x_tableIn (pc := 1) C 56 dX11_isUnder_1 (by decide) (by decide) rfl (by decide) ?_
      refine x_aload_n (pc := 56) C 0 dX11_isUnder_56 rfl ?_
      refine x_instN (pc := 57) (nm := 17) (CN := RX7) (tg := RX5) C E xo_kind4 q2_22 (fun U H hx => (hu U H hx).1 (RX7, RX5) (by simp [iuN])) dX11_isUnder_57 ?_
      exact x_bret (pc := 60) C X (b := false) rfl dX11_isUnder_60 (rI_b (by first | decide | rfl))
  · refine x_tableOut (pc := 1) C 61 dX11_isUnder_1 (by omega) (by decide) ?_
    refine x_iconst (pc := 61) (v := 1) C dX11_isUnder_61 rfl ?_
    exact x_bret (pc := 62) C X (b := true) rfl dX11_isUnder_62 (rI_b (by unfold iuX; rw [decide_eq_false (by omega)]; rfl))

set_option maxRecDepth 100000 in
set_option maxHeartbeats 800000 in
theorem c_isUnder_5 (t : CT) (M : MM) (hu : ∀ (U : State) (H : Heap), t.2.2.2 U H → iuF U) (x2 : Int32) : XMet (wC t) yX11_isUnder cX11_isUnder 2 (some .boolean) 1 [.ref (t.1 (13 + 5)), .int x2] M (rI (b2i (iuX 5 x2)) M) := by
  refine x_met RX11 (by decide) rfl (Nat.le_of_ble_eq_true rfl) (fun κ C X E => ?_)
  refine x_L (L' := [(0, .ref (t.1 (13 + 5))), (1, .int x2)]) rfl ?_
  refine x_iload_n (pc := 0) C 1 dX11_isUnder_0 rfl ?_
  by_cases h9 : x2.toInt = 1 ∨ x2.toInt = 2 ∨ x2.toInt = 3 ∨ x2.toInt = 4 ∨ x2.toInt = 5
  · rcases h9 with h9 | h9 | h9 | h9 | h9
    · obtain rfl : x2 = 1 := i_eq.mpr h9
      refine x_tableIn (pc := 1) C 36 dX11_isUnder_1 (by decide) (by decide) rfl (by decide) ?_
      refine x_aload_n (pc := 36) C 0 dX11_isUnder_36 rfl ?_
      refine x_instN (pc := 37) (nm := 18) (CN := RX5) (tg := RX0) C E xo_kind5 q2_10 (fun U H hx => (hu U H hx).1 (RX5, RX0) (by simp [iuN])) dX11_isUnder_37 ?_
      exact x_bret (pc := 40) C X (b := false) rfl dX11_isUnder_40 (rI_b (by first | decide | rfl))
    · obtain rfl : x2 = 2 := i_eq.mpr h9
      refine x_tableIn (pc := 1) C 41 dX11_isUnder_1 (by decide) (by decide) rfl (by decide) ?_
      refine x_aload_n (pc := 41) C 0 dX11_isUnder_41 rfl ?_
      refine x_instN (pc := 42) (nm := 18) (CN := RX5) (tg := RX1) C E xo_kind5 q2_13 (fun U H hx => (hu U H hx).1 (RX5, RX1) (by simp [iuN])) dX11_isUnder_42 ?_
      exact x_bret (pc := 45) C X (b := false) rfl dX11_isUnder_45 (rI_b (by first | decide | rfl))
    · obtain rfl : x2 = 3 := i_eq.mpr h9
      refine x_tableIn (pc := 1) C 46 dX11_isUnder_1 (by decide) (by decide) rfl (by decide) ?_
      refine x_aload_n (pc := 46) C 0 dX11_isUnder_46 rfl ?_
      refine x_instN (pc := 47) (nm := 18) (CN := RX5) (tg := RX4) C E xo_kind5 q2_16 (fun U H hx => (hu U H hx).1 (RX5, RX4) (by simp [iuN])) dX11_isUnder_47 ?_
      exact x_bret (pc := 50) C X (b := false) rfl dX11_isUnder_50 (rI_b (by first | decide | rfl))
    · obtain rfl : x2 = 4 := i_eq.mpr h9
      refine x_tableIn (pc := 1) C 51 dX11_isUnder_1 (by decide) (by decide) rfl (by decide) ?_
      refine x_aload_n (pc := 51) C 0 dX11_isUnder_51 rfl ?_
      refine x_instN (pc := 52) (nm := 18) (CN := RX5) (tg := RX7) C E xo_kind5 q2_19 (fun U H hx => (hu U H hx).1 (RX5, RX7) (by simp [iuN])) dX11_isUnder_52 ?_
      exact x_bret (pc := 55) C X (b := false) rfl dX11_isUnder_55 (rI_b (by first | decide | rfl))
    · obtain rfl : x2 = 5 := i_eq.mpr h9
      refine x_tableIn (pc := 1) C 56 dX11_isUnder_1 (by decide) (by decide) rfl (by decide) ?_
      refine x_aload_n (pc := 56) C 0 dX11_isUnder_56 rfl ?_
      refine x_instS (pc := 57) (nm := 18) (tg := RX5) C E xo_kind5 q2_22 (fun U H hx => (hu U H hx).2.2 RX5 (by simp [iuS])) dX11_isUnder_57 ?_
      exact x_bret (pc := 60) C X (b := true) rfl dX11_isUnder_60 (rI_b (by first | decide | rfl))
  · refine x_tableOut (pc := 1) C 61 dX11_isUnder_1 (by omega) (by decide) ?_
    refine x_iconst (pc := 61) (v := 1) C dX11_isUnder_61 rfl ?_
    exact x_bret (pc := 62) C X (b := true) rfl dX11_isUnder_62 (rI_b (by unfold iuX; rw [decide_eq_false (by omega)]; rfl))

