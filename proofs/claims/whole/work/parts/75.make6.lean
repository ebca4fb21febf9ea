/-! making: a constructor is called -/
theorem yPre_blind {D : va_G} {tys : List (ClassId × FieldType)} {z k : Nat} {f : Nat → va_E} {X : State → Heap → Prop} {av : List Value} : FrameBlind (va_Pc av (yPre D tys z k f X)) := fun a U g mk h =>
  ⟨h.1, h.2.1, va_K.moved (u := U) (U := U.calling g mk a) (Vm.Alike.refl U.vm) h.2.2.1, fun U' H' hvm hz hq => h.2.2.2.1 U' H' hvm hz hq, nest_same (s := U) (U := U.calling g mk a) rfl h.2.2.2.2⟩
def xCM (y : MethodName) (cy : ByteArray) (ny np : Nat) : Prop := Cond.instanceMethod y ∈ wsL_law ∧ Cond.initialized y.cls ∈ wsL_law ∧ Cond.code y cy ny none ∈ wsL_law ∧ y.name = "<init>" ∧ (y.cls ≠ "java/lang/invoke/MethodHandle" ∧ y.cls ≠ "java/lang/invoke/VarHandle" ∧ (parseMethodDescriptor y.desc).map (fun d => d.parameters.length) = some np) ∧ ny ≤ 21
theorem y_callI {κ : XK} {own : String} {cc : ByteArray} {n d pc : Nat} {L : List (Nat × Value)} {D : va_G} {tys : List (ClassId × FieldType)} {z : Nat} {X : State → Heap → Prop} (C : XC κ own cc n d) (E : xYE κ D tys z) (hX : yX κ z X) {y : MethodName} {cy : ByteArray} {ny d' np nc ns index j k k' : Nat} {f f' : Nat → va_E} (As rest : List Value) (hM : YMet D tys z X y cy ny d' nc ns (.ref (z + j) :: As) k f k' f') (hy : xCM y cy ny np) (hl0 : Cond.methodLink own index y ∈ wsL_law) (hnp : As.length = np) (hdd : d' < d) (hr : xRm κ nc ns) (hst : (rest.map fun v => v.category).sum ≤ 8) (hd : decode cc pc = .ok (.invokespecial index, 3)) {st : List Value} (hs : As.reverse ++ .ref (z + j) :: rest = st)
    (kk : XV (kA κ nc ns) (YP D z k' f') (pc + 3) L rest) : XV κ (YP D z k f) pc L st := by
  obtain ⟨p, l, e, R, s, m, args, below, meth, c, Q, A, nL, cells, slots⟩ := κ
  intro H locs ls hI hS hl
  subst hs
  obtain ⟨q1, q3, q4, q7, q5, q6⟩ := hy
  have hts := C.2.2.2.2.1
  have hgo := va_runI (l := l) (e := e) (R := R) (s := s) (m := m) (args := args) (below := below) (meth := meth) (c := c) (H := H) (locs := locs) (cells := cells) (slots := slots) (g := F0 m pc ls (As.reverse ++ .ref (z + j) :: rest)) (bytes := cy) (maxL := ny) (As := As) (rest := rest) (own := own) (index := index) (n := np) (Ts := wsL_law) ⟨C.1, C.2.1, C.2.2.1, C.2.2.2.1, hts⟩ (hM l) (cwI np hts (x_goodW q4) rfl rfl rfl (hts _ q3) (hts _ hl0) (hts _ q1) q7 q5 (x_cwR hdd C.2.2.2.2.2.1 C.2.2.2.2.2.2.1 q6)) ⟨yPre_blind, fun U hU hW => ⟨rfl, by rw [hU]; exact hI, va_K.moved hW.alike E.1, fun U' H' hvm hz hq => hX.1 U' H' locs (State.WarmedH.trans hW hvm) ⟨Nat.le_trans hS.1 (by rw [← hU]; exact hz), fun q h1 h2 => by
      rw [hq q (by rw [hU]; exact Nat.lt_of_lt_of_le h1 hS.1) (Nat.not_le.mp fun h => h2 (E.2 q h)), hU]
      exact hS.2.1 q h1 h2, hS.2.2⟩, nest_warm hW hX.2⟩⟩ rfl hnp hl.1 rfl (lv_room hst) hd hr
  intro T hT X0
  obtain ⟨v, st₀, t, T', L', h0, X', hL, e1, e2, ⟨hv, hP', hz, hk⟩, st⟩ := hgo T hT X0
  cases hv
  rw [h0] at hz hk
  have hSn : va_S A s.heap T'.heap (locs ++ L') := ⟨Nat.le_trans hS.1 (by rw [e1]; exact hz), fun q h1 h2 => by rw [e1, hk q (Nat.lt_of_lt_of_le h1 hS.1) (fun h => h2 (E.2 q h))]; exact hS.2.1 q h1 h2, fun q hq => by
      rcases List.mem_append.mp hq with h | h
      · exact hS.2.2 q h
      · exact E.2 _ (hL q h)⟩
  obtain ⟨t2, a1, b1⟩ := kk T'.heap (locs ++ L') ls (by rw [e1]; exact hP') hSn hl T' rfl X'
  exact ⟨t2, st t2 a1, b1⟩
