/-! a call beside other cells: what stands outside the world called stays (for the law, which holds two worlds and its script) -/
section LAWC
variable {κ : XK} {own : String} {cc : ByteArray} {n d : Nat} {w : XW} {M : MM} {pc : Nat} {L : List (Nat × Value)}
/-- kept by whatever writes in the world alone -/
def xOut (w : XW) (J : Heap → Prop) : Prop := ∀ H H1 : Heap, J H → H.size ≤ H1.size → (∀ q : Nat, q < H.size → ¬ xA w q → H1[q]? = H[q]?) → J H1
theorem x_afterJ {J : Heap → Prop} (hJ : xOut w J) {p : Program} {l : Launch} {e : Env} {R : Room} {s : State} {m : MethodId} {args : Array Value} {below : List Frame} {meth : Method} {c : Code} {Q : State → Prop} {A : Nat → Prop} {nL cells slots : Nat} (E : XE (p, l, e, R, s, m, args, below, meth, c, Q, A, nL, cells, slots) w) {φ : XF} {rest st0 : List Value} {a : Array Value} {H : Heap} {locs : List Loc} {ls : Array Slot} (hj : J H) (hr : va_Run p l e R s m args below meth c H locs cells slots 0 0 (F0 m pc ls st0) rest (xQ w φ a) (xA w)) (hS : va_S A s.heap H locs) (hl : lv_has ls nL L)
    (k : ∀ (r : Option Value) (M' : MM), φ r M' → XV (p, l, e, R, s, m, args, below, meth, c, Q, A, nL, cells, slots) (fun H => xP w M' H ∧ J H) (pc + 3) L (r.toList ++ rest)) : W p l e R s m args below meth c H locs cells slots Q (F0 m pc ls st0) := by
  intro T hT X
  obtain ⟨v, st₀, t, T', L', h0, X', hL, e1, e2, ⟨r, M', hv, hφ, hP', hz, hk⟩, st⟩ := hr T hT X
  cases hv
  rw [h0] at hz hk
  have hSn : va_S A s.heap T'.heap (locs ++ L') := ⟨Nat.le_trans hS.1 (by rw [e1]; exact hz), fun q h1 h2 => by rw [e1, hk q (Nat.lt_of_lt_of_le h1 hS.1) (fun z => h2 (E.2.2.1 q z))]; exact hS.2.1 q h1 h2, fun q hq => by
      rcases List.mem_append.mp hq with h | h
      · exact hS.2.2 q h
      · exact E.2.2.1 _ (hL q h)⟩
  obtain ⟨t2, a1, b1⟩ := k v M' hφ T'.heap (locs ++ L') ls ⟨by rw [e1]; exact hP', hJ _ _ hj (by rw [e1]; exact hz) (fun q h1 h2 => by rw [e1]; exact hk q h1 h2)⟩ hSn hl T' rfl X'
  exact ⟨t2, st t2 a1, b1⟩
theorem x_callVJ (C : XC κ own cc n d) (E : XE κ w) {J : Heap → Prop} (hJ : xOut w J) {y : MethodName} {cy : ByteArray} {ny d' np index nm : Nat} {ry : Option FieldType} {φ : XF} (As rest : List Value) (hM : XMet w y cy ny ry d' (.ref (w.2.2.1 nm) :: As) M φ) (hy : xIM y cy ny ry np) (hl0 : Cond.methodLink own index y ∈ wsL_law) (ho : xo w nm y.cls) (hnp : As.length = np) (hdd : d' < d) (hst : (rest.map fun v => v.category).sum ≤ 8) (hd : decode cc pc = .ok (.invokevirtual index, 3)) {st : List Value} (hs : As.reverse ++ .ref (w.2.2.1 nm) :: rest = st)
    (k : ∀ (r : Option Value) (M' : MM), φ r M' → XV κ (fun H => xP w M' H ∧ J H) (pc + 3) L (r.toList ++ rest)) : XV κ (fun H => xP w M H ∧ J H) pc L st := by
  obtain ⟨p, l, e, R, s, m, args, below, meth, c, Q, A, nL, cells, slots⟩ := κ
  intro H locs ls hI hS hl
  subst hs
  obtain ⟨q1, q2, q3, q4, q5, q6⟩ := hy
  have hts := C.2.2.2.2.1
  refine x_afterJ hJ E hI.2 (va_runV (bytes := cy) (maxL := ny) (ret := ry) (As := As) (rest := rest) (C := y.cls) (own := own) (index := index) (n := np) (Ts := wsL_law) ⟨C.1, C.2.1, C.2.2.1, C.2.2.2.1, hts⟩ (hM l) ?_ ⟨xPre_blind, x_recv ho E.1 hI.1, fun U hU hW => ⟨rfl, x_pre E hI.1 hS hU hW⟩⟩ rfl hnp hl.1 rfl (lv_room hst) hd ⟨C.2.2.2.2.2.2.2.1, C.2.2.2.2.2.2.2.2.1⟩) hS hl k
  refine cwV np hts (fun q hq => ?_) rfl rfl rfl ⟨rfl, q5⟩ (x_cwR hdd C.2.2.2.2.2.1 C.2.2.2.2.2.2.1 q6)
  rcases List.mem_append.mp hq with h | h
  · simp only [List.mem_cons, List.not_mem_nil, or_false] at h
    rcases h with rfl | rfl | rfl | rfl
    · exact x_good hl0
    · exact x_good q1
    · exact x_good q2
    · exact x_good q3
  · exact x_goodW q4 q h
/-- another picture of the same cells -/
theorem x_I {I I' : Heap → Prop} {st : List Value} (h : ∀ H, I H → I' H) (k : XV κ I' pc L st) : XV κ I pc L st := by
  obtain ⟨p, l, e, R, s, m, args, below, meth, c, Q, A, nL, cells, slots⟩ := κ
  intro H locs ls hI hS hl
  exact k H locs ls (h H hI) hS hl
/-- a world stands beside another whose cells lie apart -/
theorem xOut_P {w2 : XW} {M2 : MM} (hap : ∀ q, xA w q → ¬ xA w2 q) : xOut w (xP w2 M2) := fun H H1 h hz hq => va_P.kept h (fun k q hk => by
  obtain ⟨h1, h2⟩ := xl_at hk
  have hin : xA w2 q.1 := ⟨k, h1, by rw [h2]⟩
  exact hq q.1 ((h k q hk).lt) (fun hx => hap _ hx hin))
theorem xOut_and {J J2 : Heap → Prop} (h1 : xOut w J) (h2 : xOut w J2) : xOut w (fun H => J H ∧ J2 H) := fun H H1 h hz hq => ⟨h1 H H1 h.1 hz hq, h2 H H1 h.2 hz hq⟩
theorem xOut_X {b N : Nat} {xs : Nat → Int32} {s : State} (hb : ¬ xA w b) : xOut w (va_X b N xs s) := fun H H1 h hz hq => va_X.kept h (hq b (by obtain ⟨scr, h1, -⟩ := h; exact (Array.getElem?_eq_some_iff.mp h1).1) hb)
end LAWC
