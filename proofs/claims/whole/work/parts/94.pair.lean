/-! the law's two constructors, each beside what stands already -/
def yJ (z : Nat) (J : Heap → Prop) : Prop := ∀ H H1 : Heap, J H → (∀ q, q < z → H1[q]? = H[q]?) → J H1
theorem y_newJ {κ : XK} {own : String} {cc : ByteArray} {n d pc : Nat} {L : List (Nat × Value)} {st : List Value} {D : va_G} {tys : List (ClassId × FieldType)} {z k : Nat} {f : Nat → va_E} (C : XC κ own cc n d) (E : xYE κ D tys z) {J : Heap → Prop} (hJ : yJ z J) {CN : String} {T : u_T} {N ci index : Nat} (hr : xRm κ 1 N) (hin : ∀ q ∈ u_ws CN T N, q ∈ wsL_law) (ty : Nat → FieldType) (hty : ∀ k, k < N → parseFieldDescriptor (T k).2.2.1 = some (ty k)) (hcl : vwCl[ci]? = some (CN, T, N)) (h1 : Cond.classLink own index CN ∈ wsL_law) (h2 : Cond.instantiable CN N ∈ wsL_law) (h3 : Cond.initialized CN ∈ wsL_law) {fs : List Value} (hfs : ∀ j, j < N → defaultValue (ty j) = vp_V fs j) (hd : decode cc pc = .ok (.new index, 3))
    (kk : XV (kA κ 1 N) (fun H => YP D z (k + 1) (fS f k (.inr (ci, fs))) H ∧ J H) (pc + 3) L (.ref (z + k) :: st)) : XV κ (fun H => YP D z k f H ∧ J H) pc L st := by
  obtain ⟨p, l, e, R, s, m, args, below, meth, c, Q, A, nL, cells, slots⟩ := κ
  intro H locs ls hI2 hS hl
  obtain ⟨hI, hJH⟩ := hI2
  have hts := C.2.2.2.2.1
  have hKn := E.1.1 ci _ hcl
  refine W.newcK C.1 C.2.1 C.2.2.2.1 (hts _ h1) (hts _ h2) (hts _ h3) rfl hd hr.1 hr.2 hKn.2.1 rfl fun H1 kC hkC e1 z1 o1 => ?_
  rw [hI.1] at e1
  have hY := YP_push (x := .inr (ci, fs)) hI z1 o1 ⟨_, hcl, (u_born ty hts hin hKn hkC e1 hty).to hfs⟩
  have hJ1 : J H1 := hJ _ _ hJH (fun q hq => o1 q (by rw [hI.1]; omega))
  have h := kk H1 locs ls ⟨hY, hJ1⟩ ⟨Nat.le_trans hS.1 (by omega), fun x h1 h2 => (o1 x (Nat.lt_of_lt_of_le h1 hS.1)).trans (hS.2.1 x h1 h2), hS.2.2⟩ hl
  rw [hI.1]
  exact h
theorem z_callJ {κ : XK} {own : String} {cc : ByteArray} {n d pc : Nat} {L : List (Nat × Value)} {D : va_G} {tys : List (ClassId × FieldType)} {z : Nat} {X : State → Heap → Prop} {P J : Heap → Prop} (C : XC κ own cc n d) (E : xYE κ D tys z) (hX : yX κ z X) (hJ : yJ z J) {y : MethodName} {cy : ByteArray} {ny d' np nc ns index j k : Nat} {f : Nat → va_E} (As rest : List Value) (hM : ZMet D tys z X y cy ny d' nc ns (.ref (z + j) :: As) k f P) (hy : xCM y cy ny np) (hl0 : Cond.methodLink own index y ∈ wsL_law) (hnp : As.length = np) (hdd : d' < d) (hr : xRm κ nc ns) (hst : (rest.map fun v => v.category).sum ≤ 8) (hd : decode cc pc = .ok (.invokespecial index, 3)) {st : List Value} (hs : As.reverse ++ .ref (z + j) :: rest = st)
    (kk : XV (kA κ nc ns) (fun H => P H ∧ J H) (pc + 3) L rest) : XV κ (fun H => YP D z k f H ∧ J H) pc L st := by
  obtain ⟨p, l, e, R, s, m, args, below, meth, c, Q, A, nL, cells, slots⟩ := κ
  intro H locs ls hI2 hS hl
  obtain ⟨hI, hJH⟩ := hI2
  subst hs
  obtain ⟨q1, q3, q4, q7, q5, q6⟩ := hy
  have hts := C.2.2.2.2.1
  have hgo := va_runI (l := l) (e := e) (R := R) (s := s) (m := m) (args := args) (below := below) (meth := meth) (c := c) (H := H) (locs := locs) (cells := cells) (slots := slots) (g := F0 m pc ls (As.reverse ++ .ref (z + j) :: rest)) (bytes := cy) (maxL := ny) (As := As) (rest := rest) (own := own) (index := index) (n := np) (Ts := wsL_law) ⟨C.1, C.2.1, C.2.2.1, C.2.2.2.1, hts⟩ (hM l) (cwI np hts (x_goodW q4) rfl rfl rfl (hts _ q3) (hts _ hl0) (hts _ q1) q7 q5 (x_cwR hdd C.2.2.2.2.2.1 C.2.2.2.2.2.2.1 q6)) ⟨yPre_blind, fun U hU hW => ⟨rfl, by rw [hU]; exact hI, va_K.moved hW.alike E.1, fun U' H' hvm hz hq => hX.1 U' H' locs (State.WarmedH.trans hW hvm) ⟨Nat.le_trans hS.1 (by rw [← hU]; exact hz), fun q h1 h2 => by
      rw [hq q (by rw [hU]; exact Nat.lt_of_lt_of_le h1 hS.1) (Nat.not_le.mp fun h => h2 (E.2 q h)), hU]
      exact hS.2.1 q h1 h2, hS.2.2⟩, nest_warm hW hX.2⟩⟩ rfl hnp hl.1 rfl (lv_room hst) hd hr
  intro T hT X0
  obtain ⟨v, st₀, t, T', L', h0, X', hL, e1, e2, ⟨hv, hP', hz, hk⟩, st⟩ := hgo T hT X0
  cases hv
  rw [h0] at hz hk
  have hSn : va_S A s.heap T'.heap (locs ++ L') := ⟨Nat.le_trans hS.1 (by rw [e1]; exact hz), fun q h1 h2 => by rw [e1, hk q (Nat.lt_of_lt_of_le h1 hS.1) (fun h => h2 (E.2 q h))]; exact hS.2.1 q h1 h2, fun q hq => by
      rcases List.mem_append.mp hq with h | h
      · exact hS.2.2 q h
      · exact E.2 _ (hL q h)⟩
  have hJ1 : J T'.heap := hJ _ _ hJH (fun q hq => by
    rw [e1]
    exact hk q (by rw [hI.1]; omega) (by show ¬ z ≤ q; omega))
  obtain ⟨t2, a1, b1⟩ := kk T'.heap (locs ++ L') ls ⟨by rw [e1]; exact hP', hJ1⟩ hSn hl T' rfl X'
  exact ⟨t2, st t2 a1, b1⟩
/-- the heap's size at a place, named -/
theorem x_sz {κ : XK} {I : Heap → Prop} {pc : Nat} {L : List (Nat × Value)} {st : List Value} (k : ∀ z, XV κ (fun H => I H ∧ H.size = z) pc L st) : XV κ I pc L st := by
  obtain ⟨p, l, e, R, s, m, args, below, meth, c, Q, A, nL, cells, slots⟩ := κ
  intro H locs ls hI hS hl
  exact k H.size H locs ls ⟨hI, rfl⟩ hS hl
theorem x_ex {κ : XK} {α : Type} {I : α → Heap → Prop} {pc : Nat} {L : List (Nat × Value)} {st : List Value} (k : ∀ a, XV κ (I a) pc L st) : XV κ (fun H => ∃ a, I a H) pc L st := by
  obtain ⟨p, l, e, R, s, m, args, below, meth, c, Q, A, nL, cells, slots⟩ := κ
  intro H locs ls hI hS hl
  obtain ⟨a, hI⟩ := hI
  exact k a H locs ls hI hS hl
theorem x_pr {κ : XK} {a : Prop} {I : Heap → Prop} {pc : Nat} {L : List (Nat × Value)} {st : List Value} (h : ∀ H, I H → a) (k : a → XV κ I pc L st) : XV κ I pc L st := by
  obtain ⟨p, l, e, R, s, m, args, below, meth, c, Q, A, nL, cells, slots⟩ := κ
  intro H locs ls hI hS hl
  exact k (h H hI) H locs ls hI hS hl
theorem yJ_P {z : Nat} {w : XW} {M : MM} (h : ∀ q, xA w q → q < z) : yJ z (xP w M) := fun H H1 hP hq => va_P.kept hP (fun k q hk => by
  obtain ⟨h1, h2⟩ := xl_at hk
  exact hq q.1 (h q.1 ⟨k, h1, by rw [h2]⟩))
