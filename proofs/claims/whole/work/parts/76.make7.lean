/-- the same, a nest mate's private one -/
theorem y_callIN {κ : XK} {own : String} {cc : ByteArray} {n d pc : Nat} {L : List (Nat × Value)} {D : va_G} {tys : List (ClassId × FieldType)} {z : Nat} {X : State → Heap → Prop} (C : XC κ own cc n d) (E : xYE κ D tys z) (hX : yX κ z X) {y : MethodName} {cy : ByteArray} {host : String} {ny d' np nc ns index j k k' : Nat} {f f' : Nat → va_E} (As rest : List Value) (hM : YMet D tys z X y cy ny d' nc ns (.ref (z + j) :: As) k f k' f') (hy : xCM y cy ny np) (hl0 : Cond.methodLinkNest own index y host ∈ lw_nest) (hnp : As.length = np) (hdd : d' < d) (hr : xRm κ nc ns) (hst : (rest.map fun v => v.category).sum ≤ 8) (hd : decode cc pc = .ok (.invokespecial index, 3)) {st : List Value} (hs : As.reverse ++ .ref (z + j) :: rest = st)
    (kk : XV (kA κ nc ns) (YP D z k' f') (pc + 3) L rest) : XV κ (YP D z k f) pc L st := by
  obtain ⟨p, l, e, R, s, m, args, below, meth, c, Q, A, nL, cells, slots⟩ := κ
  intro H locs ls hI hS hl
  subst hs
  obtain ⟨q1, q3, q4, q7, q5, q6⟩ := hy
  have hts := C.2.2.2.2.1
  have hgo := va_runIN (p := p) (host := host) (l := l) (e := e) (R := R) (s := s) (m := m) (args := args) (below := below) (meth := meth) (c := c) (H := H) (locs := locs) (cells := cells) (slots := slots) (g := F0 m pc ls (As.reverse ++ .ref (z + j) :: rest)) (bytes := cy) (maxL := ny) (As := As) (rest := rest) (own := own) (index := index) (n := np) (Ts := wsL_law) ⟨C.1, C.2.1, C.2.2.1, C.2.2.2.1, hts⟩ (hM l) ⟨va_cnB np hts (x_goodW q4) rfl rfl rfl (hX.2 _ hl0) (hts _ q3) q5 (x_cwR hdd C.2.2.2.2.2.1 C.2.2.2.2.2.2.1 q6), q7, hts _ q1⟩ ⟨yPre_blind, fun U hU hW => ⟨rfl, by rw [hU]; exact hI, va_K.moved hW.alike E.1, fun U' H' hvm hz hq => hX.1 U' H' locs (State.WarmedH.trans hW hvm) ⟨Nat.le_trans hS.1 (by rw [← hU]; exact hz), fun q h1 h2 => by
      rw [hq q (by rw [hU]; exact Nat.lt_of_lt_of_le h1 hS.1) (Nat.not_le.mp fun h => h2 (E.2 q h)), hU]
      exact hS.2.1 q h1 h2, hS.2.2⟩, nest_warm hW hX.2⟩⟩ rfl hnp hl.1 rfl (lv_room hst) hd hr
  intro T hT X0
  obtain ⟨v, st₀, t, T', L', h0, X', hL, e1, e2, ⟨hv, hP', hz, hk⟩, st⟩ := hgo T hT X0
  cases hv
  rw [h0] at hz hk
  have hSn : va_S A s.heap T'.heap (locs ++ L') := ⟨Nat.le_trans hS.1 (by rw [e1]; exact hz), fun q h1 h2 => by rw [e1, hk q (Nat.lt_of_lt_of_le h1 hS.1) (fun h => h2 (E.2 q h))]; exact hS.2.1 q h1 h2, fun q hq => by
      rcases List.mem_append.mp hq with h | h
      · exact hS.2.2 q h
      · exact E.2 _ (hL q h)⟩
  obtain ⟨t2, a1, b1⟩ := kk T'.heap (locs ++ L') ls (by rw [e1]; exact hP') hSn hl T' rfl X'
  exact ⟨t2, st t2 a1, b1⟩
