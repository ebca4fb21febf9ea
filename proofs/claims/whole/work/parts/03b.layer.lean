/-! THE WALK'S JUDGEMENT with the heap's picture in the goal: XV. A world is its names 0 .. N-1, each with an address and a row of ints that says what its cell holds. -/
abbrev MM : Type := Nat → Nat → Int32
abbrev XW : Type := Nat × (Nat → (Nat → Int32) → va_E) × (Nat → Nat) × va_G × List (ClassId × FieldType) × (State → Heap → Prop)
def xl (w : XW) (M : MM) : va_W := (List.range w.1).map (fun n => (w.2.2.1 n, w.2.1 n (M n)))
def mr (M : MM) (n : Nat) (r : Nat → Int32) : MM := fun a => if a = n then r else M a
def mu (M : MM) (n k : Nat) (v : Int32) : MM := mr M n (upd (M n) k v)
theorem mr_s (M : MM) (n : Nat) (r : Nat → Int32) : mr M n r n = r := by simp [mr]
theorem mr_n (M : MM) (n : Nat) (r : Nat → Int32) {a : Nat} (h : a ≠ n) : mr M n r a = M a := by simp [mr, h]
theorem mu_s (M : MM) (n k : Nat) (v : Int32) : mu M n k v n k = v := by simp [mu, mr, upd]
theorem mu_k (M : MM) (n k : Nat) (v : Int32) {b : Nat} (h : b ≠ k) : mu M n k v n b = M n b := by simp [mu, mr, upd, h]
theorem mu_n (M : MM) (n k : Nat) (v : Int32) {a : Nat} (h : a ≠ n) : mu M n k v a = M a := by simp [mu, mr, h]
theorem mu_at (M : MM) (n k : Nat) (v : Int32) (a b : Nat) : mu M n k v a b = if a = n ∧ b = k then v else M a b := by
  by_cases h : a = n
  · subst h
    by_cases g : b = k
    · subst g; simp [mu, mr, upd]
    · simp [mu, mr, upd, g]
  · simp [mu, mr, h]
theorem xl_get {w : XW} {M : MM} {n : Nat} (h : n < w.1) : (xl w M)[n]? = some (w.2.2.1 n, w.2.1 n (M n)) := by
  unfold xl
  rw [List.getElem?_map, List.getElem?_range h]
  rfl
theorem xl_set {w : XW} {M : MM} {n : Nat} {r : Nat → Int32} : (xl w M).set n (w.2.2.1 n, w.2.1 n r) = xl w (mr M n r) := by
  apply List.ext_getElem?
  intro i
  unfold xl
  by_cases hi : i < w.1
  · by_cases hin : i = n
    · subst hin
      rw [List.getElem?_set_self (by simpa using hi), List.getElem?_map, List.getElem?_range hi]
      simp [mr]
    · rw [List.getElem?_set_ne (Ne.symm hin), List.getElem?_map, List.getElem?_map, List.getElem?_range hi]
      simp [mr, hin]
  · rw [List.getElem?_eq_none (by simp; omega), List.getElem?_eq_none (by simp; omega)]
def xA (w : XW) : Nat → Prop := fun q => ∃ n, n < w.1 ∧ q = w.2.2.1 n
def xI (w : XW) : Prop := ∀ i j, i < w.1 → j < w.1 → w.2.2.1 i = w.2.2.1 j → i = j
theorem xl_at {w : XW} {M : MM} {k : Nat} {q : Nat × va_E} (h : (xl w M)[k]? = some q) : k < w.1 ∧ q = (w.2.2.1 k, w.2.1 k (M k)) := by
  unfold xl at h
  have hk := (List.getElem?_eq_some_iff.mp h).1
  rw [List.length_map, List.length_range] at hk
  have h2 := (xl_get (M := M) hk)
  unfold xl at h2
  rw [h2] at h
  exact ⟨hk, (Option.some.inj h).symm⟩
theorem xl_D {w : XW} {M : MM} {A : Nat → Prop} (h : xI w) (hA : ∀ q, xA w q → A q) : va_D A (xl w M) := by
  refine ⟨fun i j p q hi hj hpq => ?_, fun k q hk => ?_⟩
  · obtain ⟨h1, rfl⟩ := xl_at hi
    obtain ⟨h2, rfl⟩ := xl_at hj
    exact h i j h1 h2 hpq
  · obtain ⟨h1, rfl⟩ := xl_at hk
    exact hA _ ⟨k, h1, rfl⟩
def xP (w : XW) (M : MM) (H : Heap) : Prop := va_P w.2.2.2.1 vwCl (xl w M) H
/-- what else stands in the heap, outside the world (text constants) -/
def xX (w : XW) (U : State) (H : Heap) : Prop := w.2.2.2.2.2 U H
abbrev XK : Type := Program × Launch × Env × Room × State × MethodId × Array Value × List Frame × Method × Code × (State → Prop) × (Nat → Prop) × Nat × Nat × Nat
/-- the links to a nest mate's private members -/
def lw_nest : List Cond := [.methodLinkNest RX11 29 yX9_init RX11, .methodLinkNest RX9 17 yX6_init RX11, .methodLinkNest RX10 17 yX2_init RX11, .methodLinkNest RX11 79 yX6_init RX11, .methodLinkNest RX11 80 yX8_init RX11, .methodLinkNest RX11 81 yX2_init RX11, .methodLinkNest RX2 66 yX11_without RX11, .methodLinkNest RX2 50 yX11_isIn RX11, .methodLinkNest RX10 36 yX11_isIn RX11, .methodLinkNest RX10 51 yX11_without RX11]
theorem nest_warm {s U : State} (hW : s.WarmedH U.vm) (h : ∀ q ∈ lw_nest, va_Nw q s) : ∀ q ∈ lw_nest, va_Nw q U := by
  intro q hq
  have h2 := h q hq
  simp only [lw_nest, List.mem_cons, List.not_mem_nil, or_false] at hq
  rcases hq with rfl | rfl | rfl | rfl | rfl | rfl | rfl | rfl | rfl | rfl <;> exact va_Nw.warmM hW h2
theorem nest_same {s U : State} (hW : s.vm = U.vm) (h : ∀ q ∈ lw_nest, va_Nw q s) : ∀ q ∈ lw_nest, va_Nw q U := by
  intro q hq
  have h2 := h q hq
  simp only [lw_nest, List.mem_cons, List.not_mem_nil, or_false] at hq
  rcases hq with rfl | rfl | rfl | rfl | rfl | rfl | rfl | rfl | rfl | rfl <;> exact va_Nw.same rfl hW h2
def XV (κ : XK) (I : Heap → Prop) (pc : Nat) (L : List (Nat × Value)) (st : List Value) : Prop := match κ with
  | (p, l, e, R, s, m, args, below, meth, c, Q, A, nL, cells, slots) => ∀ (H : Heap) (locs : List Loc) (ls : Array Slot), I H → va_S A s.heap H locs → lv_has ls nL L → W p l e R s m args below meth c H locs cells slots Q (F0 m pc ls st)
def XC (κ : XK) (own : String) (cc : ByteArray) (n d : Nat) : Prop := match κ with
  | (p, _, _, R, s, m, args, _, _, c, _, _, nL, cells, slots) => p.tables.exec = Jvm.exec ∧ c.code = cc ∧ c.maxLocals = nL ∧ s.vm.findClass own = some m.cls ∧ (∀ q ∈ wsL_law, q.before args s = true) ∧ d ≤ R.frames ∧ 40 * d ≤ R.locals ∧ cells ≤ R.cells ∧ slots ≤ R.slots ∧ nL = n
/-- the world's own facts at a walk: the tables, its addresses apart, what else stands there -/
def XE (κ : XK) (w : XW) : Prop := match κ with
  | (_, _, _, _, s, _, _, _, _, _, _, A, _, _, _) => va_K w.2.2.2.1 vwCl w.2.2.2.2.1 s ∧ xI w ∧ (∀ q, xA w q → A q) ∧ (∀ (U : State) (H : Heap) (locs : List Loc), s.WarmedH U.vm → va_S A s.heap H locs → xX w U H) ∧ (∀ q ∈ lw_nest, va_Nw q s)
abbrev XF : Type := Option Value → MM → Prop
def xQ (w : XW) (φ : XF) : Array Value → State → Outcome → State → Prop := fun _ st oc t => ∃ (r : Option Value) (M : MM), oc = .returned r ∧ φ r M ∧ xP w M t.heap ∧ va_F (xA w) st t
def XR (κ : XK) (w : XW) (φ : XF) (ret : Option FieldType) : Prop := match κ with
  | (_, _, _, _, s, _, args, below, meth, _, Q, A, _, cells, slots) => meth.sig.returnType = ret ∧ meth.locks = false ∧ Q = MQ below (xQ w φ) args s cells slots A ∧ A = xA w
def RMd (d : Nat) : Room := { frames := d, cells := 0, slots := 0, locals := 40 * d }
def xPre (w : XW) (M : MM) (U : State) : Prop := xP w M U.heap ∧ va_K w.2.2.2.1 vwCl w.2.2.2.2.1 U ∧ xI w ∧ (∀ (U' : State) (H : Heap), U.WarmedH U'.vm → U.heap.size ≤ H.size → (∀ q : Nat, q < U.heap.size → ¬ xA w q → H[q]? = U.heap[q]?) → xX w U' H) ∧ (∀ q ∈ lw_nest, va_Nw q U)
/-- a method's contract -/
def XMet (w : XW) (y : MethodName) (cc : ByteArray) (nL : Nat) (ret : Option FieldType) (d : Nat) (av : List Value) (M : MM) (φ : XF) : Prop :=
  ∀ l : Launch, Met l y (Cond.code y cc nL ret :: wsL_law) (RMd d) (va_Pc av (xPre w M)) (xQ w φ) 0 0 (xA w)
theorem x_met {w : XW} {y : MethodName} {cc : ByteArray} {nL : Nat} {ret : Option FieldType} {d : Nat} {av : List Value} {M : MM} {φ : XF} (own : String) (hy : plainName y.cls = true) (hown : y.cls = own) (hav : (lg_sl av).length ≤ nL)
    (body : ∀ κ : XK, XC κ own cc nL d → XR κ w φ ret → XE κ w → XV κ (xP w M) 0 (lv_args 0 av) []) : XMet w y cc nL ret d av M φ := by
  intro l
  refine Met.ofW (cc := cc) (maxL := nL) (ret := ret) hy rfl ?_
  intro p e s m args below meth c s₁ B hml hv
  obtain ⟨rfl, hP, hK, hI, hX, hN⟩ := hv
  have hts := atoms_spec (ws := Cond.code y cc nL ret :: wsL_law) B.pre
  have hown2 : s.vm.findClass own = some m.cls := hown ▸ findClass_of_methodNamed B.named
  have hb := body (p, l, e, RMd d, s, m, av.toArray, below, meth, c, MQ below (xQ w φ) av.toArray s 0 0 (xA w), xA w, nL, 0, 0)
    ⟨B.exec, B.bytes, hml, hown2, fun q h => hts q (List.mem_cons_of_mem _ h), Nat.le_refl _, Nat.le_refl _, Nat.le_refl _, Nat.le_refl _, rfl⟩ ⟨B.returns, B.notSynchronized, rfl, rfl⟩ ⟨hK, hI, fun _ h => h, fun U H locs hvm hS => hX U H hvm hS.1 (fun q h1 h2 => hS.2.1 q h1 h2), hN⟩
  have hl := lv_entry av (n := nL) hav
  rw [lg_entry_eq]
  exact hb s.heap [] _ hP va_S.rf hl
section XROWS
variable {κ : XK} {own : String} {cc : ByteArray} {n d : Nat} {I : Heap → Prop} {pc : Nat} {L L' : List (Nat × Value)} {st : List Value}
theorem x_sub (ks : List Nat) (h : lv_pick L ks = L') (k : XV κ I pc L' st) : XV κ I pc L st := by
  obtain ⟨p, l, e, R, s, m, args, below, meth, c, Q, A, nL, cells, slots⟩ := κ
  intro H locs ls hI hS hl
  exact k H locs ls hI hS (lv_sub hl ks h)
theorem x_top {x : Int32} (k : ∀ y : Int32, y = x → XV κ I pc L (.int y :: st)) : XV κ I pc L (.int x :: st) := k x rfl
theorem x_eq {x y : Int32} (h : x = y) (k : XV κ I pc L (.int y :: st)) : XV κ I pc L (.int x :: st) := h ▸ k
theorem x_eqL {x y : Int64} (h : x = y) (k : XV κ I pc L (.long y :: st)) : XV κ I pc L (.long x :: st) := h ▸ k
/-- the listed locals behind a store of one slot -/
def lput (i : Nat) (v : Value) (L : List (Nat × Value)) : List (Nat × Value) := (i, v) :: L.filter (fun q => !(q.1 == i) && !(q.1 + 1 == i && q.2.category == 2))
theorem x_iconst (C : XC κ own cc n d) {n0 : Int} {v : Int32} (hd : decode cc pc = .ok (.iconst n0, 1)) (hv : Int32.ofInt n0 = v) (k : XV κ I (pc + 1) L (.int v :: st)) : XV κ I (pc) L st := by
  obtain ⟨p, l, e, R, s, m, args, below, meth, c, Q, A, nL, cells, slots⟩ := κ
  intro H locs ls hI hS hl
  exact lv_iconst C.1 C.2.1 hd hv (k H locs ls hI hS hl)
theorem x_bipush (C : XC κ own cc n d) {n0 : Int} {v : Int32} (hd : decode cc pc = .ok (.bipush n0, 2)) (hv : (Int8.ofInt n0).toInt32 = v) (k : XV κ I (pc + 2) L (.int v :: st)) : XV κ I (pc) L st := by
  obtain ⟨p, l, e, R, s, m, args, below, meth, c, Q, A, nL, cells, slots⟩ := κ
  intro H locs ls hI hS hl
  exact lv_bipush C.1 C.2.1 hd hv (k H locs ls hI hS hl)
theorem x_sipush (C : XC κ own cc n d) {n0 : Int} {v : Int32} (hd : decode cc pc = .ok (.sipush n0, 3)) (hv : (Int16.ofInt n0).toInt32 = v) (k : XV κ I (pc + 3) L (.int v :: st)) : XV κ I (pc) L st := by
  obtain ⟨p, l, e, R, s, m, args, below, meth, c, Q, A, nL, cells, slots⟩ := κ
  intro H locs ls hI hS hl
  exact lv_sipush C.1 C.2.1 hd hv (k H locs ls hI hS hl)
theorem x_lconst (C : XC κ own cc n d) {n0 : Fin 2} {v : Int64} (hd : decode cc pc = .ok (.lconst n0, 1)) (hv : Int64.ofNat (n0 : Nat) = v) (k : XV κ I (pc + 1) L (.long v :: st)) : XV κ I (pc) L st := by
  obtain ⟨p, l, e, R, s, m, args, below, meth, c, Q, A, nL, cells, slots⟩ := κ
  intro H locs ls hI hS hl
  exact lv_lconst C.1 C.2.1 hd hv (k H locs ls hI hS hl)
theorem x_ldc (C : XC κ own cc n d) {index : Nat} {v : Int32} (hc : Cond.constant own index v ∈ wsL_law) (hd : decode cc pc = .ok (.ldc index, 2)) (k : XV κ I (pc + 2) L (.int v :: st)) : XV κ I (pc) L st := by
  obtain ⟨p, l, e, R, s, m, args, below, meth, c, Q, A, nL, cells, slots⟩ := κ
  intro H locs ls hI hS hl
  exact lv_ldc C.1 C.2.1 C.2.2.2.1 (C.2.2.2.2.1 _ hc) hd (k H locs ls hI hS hl)
theorem x_ldcw (C : XC κ own cc n d) {index : Nat} {v : Int32} (hc : Cond.constant own index v ∈ wsL_law) (hd : decode cc pc = .ok (.ldc_w index, 3)) (k : XV κ I (pc + 3) L (.int v :: st)) : XV κ I (pc) L st := by
  obtain ⟨p, l, e, R, s, m, args, below, meth, c, Q, A, nL, cells, slots⟩ := κ
  intro H locs ls hI hS hl
  exact lv_ldcw C.1 C.2.1 C.2.2.2.1 (C.2.2.2.2.1 _ hc) hd (k H locs ls hI hS hl)
theorem x_ldc2 (C : XC κ own cc n d) {index : Nat} {v : Int64} (hc : Cond.constantLong own index v ∈ wsL_law) (hd : decode cc pc = .ok (.ldc2_w index, 3)) (k : XV κ I (pc + 3) L (.long v :: st)) : XV κ I (pc) L st := by
  obtain ⟨p, l, e, R, s, m, args, below, meth, c, Q, A, nL, cells, slots⟩ := κ
  intro H locs ls hI hS hl
  exact lv_ldc2 C.1 C.2.1 C.2.2.2.1 (C.2.2.2.2.1 _ hc) hd (k H locs ls hI hS hl)
theorem x_iload_n (C : XC κ own cc n d) {i : Fin 4} {x : Int32} (j : Nat) (hd : decode cc pc = .ok (.iload_n i, 1)) (hj : L[j]? = some ((i : Nat), .int x)) (k : XV κ I (pc + 1) L (.int x :: st)) : XV κ I (pc) L st := by
  obtain ⟨p, l, e, R, s, m, args, below, meth, c, Q, A, nL, cells, slots⟩ := κ
  intro H locs ls hI hS hl
  exact lv_iload_n C.1 C.2.1 hd rfl (lv_at hl j hj) (k H locs ls hI hS hl)
theorem x_iload (C : XC κ own cc n d) {i : Nat} {x : Int32} (j : Nat) (hd : decode cc pc = .ok (.iload i, 2)) (hj : L[j]? = some (i, .int x)) (k : XV κ I (pc + 2) L (.int x :: st)) : XV κ I (pc) L st := by
  obtain ⟨p, l, e, R, s, m, args, below, meth, c, Q, A, nL, cells, slots⟩ := κ
  intro H locs ls hI hS hl
  exact lv_iload C.1 C.2.1 hd (lv_at hl j hj) (k H locs ls hI hS hl)
theorem x_aload_n (C : XC κ own cc n d) {i : Fin 4} {x : Nat} (j : Nat) (hd : decode cc pc = .ok (.aload_n i, 1)) (hj : L[j]? = some ((i : Nat), .ref x)) (k : XV κ I (pc + 1) L (.ref x :: st)) : XV κ I (pc) L st := by
  obtain ⟨p, l, e, R, s, m, args, below, meth, c, Q, A, nL, cells, slots⟩ := κ
  intro H locs ls hI hS hl
  exact lv_aload_n C.1 C.2.1 hd rfl (lv_at hl j hj) (k H locs ls hI hS hl)
theorem x_aload (C : XC κ own cc n d) {i : Nat} {x : Nat} (j : Nat) (hd : decode cc pc = .ok (.aload i, 2)) (hj : L[j]? = some (i, .ref x)) (k : XV κ I (pc + 2) L (.ref x :: st)) : XV κ I (pc) L st := by
  obtain ⟨p, l, e, R, s, m, args, below, meth, c, Q, A, nL, cells, slots⟩ := κ
  intro H locs ls hI hS hl
  exact lv_aload C.1 C.2.1 hd (lv_at hl j hj) (k H locs ls hI hS hl)
theorem x_lload_n (C : XC κ own cc n d) {i : Fin 4} {x : Int64} (j : Nat) (hd : decode cc pc = .ok (.lload_n i, 1)) (hj : L[j]? = some ((i : Nat), .long x)) (k : XV κ I (pc + 1) L (.long x :: st)) : XV κ I (pc) L st := by
  obtain ⟨p, l, e, R, s, m, args, below, meth, c, Q, A, nL, cells, slots⟩ := κ
  intro H locs ls hI hS hl
  exact lv_lload_n C.1 C.2.1 hd rfl (lv_at hl j hj) (k H locs ls hI hS hl)
theorem x_lload (C : XC κ own cc n d) {i : Nat} {x : Int64} (j : Nat) (hd : decode cc pc = .ok (.lload i, 2)) (hj : L[j]? = some (i, .long x)) (k : XV κ I (pc + 2) L (.long x :: st)) : XV κ I (pc) L st := by
  obtain ⟨p, l, e, R, s, m, args, below, meth, c, Q, A, nL, cells, slots⟩ := κ
  intro H locs ls hI hS hl
  exact lv_lload C.1 C.2.1 hd (lv_at hl j hj) (k H locs ls hI hS hl)
theorem x_istore_n (C : XC κ own cc n d) {i : Fin 4} {x : Int32} (hd : decode cc pc = .ok (.istore_n i, 1)) (hi : (i : Nat) < n) (hL : lput i (.int x) L = L') (k : XV κ I (pc + 1) L' st) : XV κ I (pc) L (.int x :: st) := by
  obtain ⟨p, l, e, R, s, m, args, below, meth, c, Q, A, nL, cells, slots⟩ := κ
  intro H locs ls hI hS hl
  exact lv_istore_n C.1 C.2.1 hd rfl hl (by rw [show nL = n from C.2.2.2.2.2.2.2.2.2]; exact hi) hL (fun ls' hl2 => k H locs ls' hI hS hl2)
theorem x_istore (C : XC κ own cc n d) {i : Nat} {x : Int32} (hd : decode cc pc = .ok (.istore i, 2)) (hi : i < n) (hL : lput i (.int x) L = L') (k : XV κ I (pc + 2) L' st) : XV κ I (pc) L (.int x :: st) := by
  obtain ⟨p, l, e, R, s, m, args, below, meth, c, Q, A, nL, cells, slots⟩ := κ
  intro H locs ls hI hS hl
  exact lv_istore C.1 C.2.1 hd hl (by rw [show nL = n from C.2.2.2.2.2.2.2.2.2]; exact hi) hL (fun ls' hl2 => k H locs ls' hI hS hl2)
theorem x_astore_n (C : XC κ own cc n d) {i : Fin 4} {x : Nat} (hd : decode cc pc = .ok (.astore_n i, 1)) (hi : (i : Nat) < n) (hL : lput i (.ref x) L = L') (k : XV κ I (pc + 1) L' st) : XV κ I (pc) L (.ref x :: st) := by
  obtain ⟨p, l, e, R, s, m, args, below, meth, c, Q, A, nL, cells, slots⟩ := κ
  intro H locs ls hI hS hl
  exact lv_astore_n C.1 C.2.1 hd rfl hl (by rw [show nL = n from C.2.2.2.2.2.2.2.2.2]; exact hi) hL (fun ls' hl2 => k H locs ls' hI hS hl2)
theorem x_astore (C : XC κ own cc n d) {i : Nat} {x : Nat} (hd : decode cc pc = .ok (.astore i, 2)) (hi : i < n) (hL : lput i (.ref x) L = L') (k : XV κ I (pc + 2) L' st) : XV κ I (pc) L (.ref x :: st) := by
  obtain ⟨p, l, e, R, s, m, args, below, meth, c, Q, A, nL, cells, slots⟩ := κ
  intro H locs ls hI hS hl
  exact lv_astore C.1 C.2.1 hd hl (by rw [show nL = n from C.2.2.2.2.2.2.2.2.2]; exact hi) hL (fun ls' hl2 => k H locs ls' hI hS hl2)
theorem x_lstore (C : XC κ own cc n d) {i : Nat} {x : Int64} (hd : decode cc pc = .ok (.lstore i, 2)) (hi : i + 1 < n) (hL : (i, Value.long x) :: L.filter (fun q => !(q.1 == i) && (!(q.1 == i + 1) && !(q.1 + 1 == i && q.2.category == 2))) = L') (k : XV κ I (pc + 2) L' st) : XV κ I (pc) L (.long x :: st) := by
  obtain ⟨p, l, e, R, s, m, args, below, meth, c, Q, A, nL, cells, slots⟩ := κ
  intro H locs ls hI hS hl
  exact lv_lstore C.1 C.2.1 hd hl (by rw [show nL = n from C.2.2.2.2.2.2.2.2.2]; exact hi) hL (fun ls' hl2 => k H locs ls' hI hS hl2)
theorem x_iinc (C : XC κ own cc n d) {i : Nat} {z : Int} {x v : Int32} (j : Nat) (hd : decode cc pc = .ok (.iinc i z, 3)) (hj : L[j]? = some (i, .int x)) (hv : x + Int32.ofInt z = v) (hi : i < n) (hL : lput i (.int v) L = L') (k : XV κ I (pc + 3) L' st) : XV κ I (pc) L st := by
  obtain ⟨p, l, e, R, s, m, args, below, meth, c, Q, A, nL, cells, slots⟩ := κ
  intro H locs ls hI hS hl
  exact lv_iinc C.1 C.2.1 hd hl hj hv (by rw [show nL = n from C.2.2.2.2.2.2.2.2.2]; exact hi) hL (fun ls' hl2 => k H locs ls' hI hS hl2)
theorem x_dup (C : XC κ own cc n d) {v : Value} (hd : decode cc pc = .ok (.dup, 1)) (hv : v.category = 1) (k : XV κ I (pc + 1) L (v :: v :: st)) : XV κ I (pc) L (v :: st) := by
  obtain ⟨p, l, e, R, s, m, args, below, meth, c, Q, A, nL, cells, slots⟩ := κ
  intro H locs ls hI hS hl
  exact lv_dup C.1 C.2.1 hd hv (k H locs ls hI hS hl)
theorem x_pop (C : XC κ own cc n d) {v : Value} (hd : decode cc pc = .ok (.pop, 1)) (hv : v.category = 1) (k : XV κ I (pc + 1) L st) : XV κ I (pc) L (v :: st) := by
  obtain ⟨p, l, e, R, s, m, args, below, meth, c, Q, A, nL, cells, slots⟩ := κ
  intro H locs ls hI hS hl
  exact lv_pop C.1 C.2.1 hd hv (k H locs ls hI hS hl)
theorem x_goto (C : XC κ own cc n d) {off : Int} (tgt : Nat) (hd : decode cc pc = .ok (.goto off, 3)) (ht : (pc : Int) + off = (tgt : Int)) (k : XV κ I (tgt) L st) : XV κ I (pc) L st := by
  obtain ⟨p, l, e, R, s, m, args, below, meth, c, Q, A, nL, cells, slots⟩ := κ
  intro H locs ls hI hS hl
  exact lv_goto C.1 C.2.1 hd ht (k H locs ls hI hS hl)
theorem x_iadd (C : XC κ own cc n d) {x y : Int32} (hd : decode cc pc = .ok (.iadd, 1)) (k : XV κ I (pc + 1) L (.int (x + y) :: st)) : XV κ I (pc) L (.int y :: .int x :: st) := by
  obtain ⟨p, l, e, R, s, m, args, below, meth, c, Q, A, nL, cells, slots⟩ := κ
  intro H locs ls hI hS hl
  exact lv_iadd C.1 C.2.1 hd (k H locs ls hI hS hl)
theorem x_isub (C : XC κ own cc n d) {x y : Int32} (hd : decode cc pc = .ok (.isub, 1)) (k : XV κ I (pc + 1) L (.int (x - y) :: st)) : XV κ I (pc) L (.int y :: .int x :: st) := by
  obtain ⟨p, l, e, R, s, m, args, below, meth, c, Q, A, nL, cells, slots⟩ := κ
  intro H locs ls hI hS hl
  exact lv_isub C.1 C.2.1 hd (k H locs ls hI hS hl)
theorem x_imul (C : XC κ own cc n d) {x y : Int32} (hd : decode cc pc = .ok (.imul, 1)) (k : XV κ I (pc + 1) L (.int (x * y) :: st)) : XV κ I (pc) L (.int y :: .int x :: st) := by
  obtain ⟨p, l, e, R, s, m, args, below, meth, c, Q, A, nL, cells, slots⟩ := κ
  intro H locs ls hI hS hl
  exact lv_imul C.1 C.2.1 hd (k H locs ls hI hS hl)
theorem x_iand (C : XC κ own cc n d) {x y : Int32} (hd : decode cc pc = .ok (.iand, 1)) (k : XV κ I (pc + 1) L (.int (x &&& y) :: st)) : XV κ I (pc) L (.int y :: .int x :: st) := by
  obtain ⟨p, l, e, R, s, m, args, below, meth, c, Q, A, nL, cells, slots⟩ := κ
  intro H locs ls hI hS hl
  exact lv_iand C.1 C.2.1 hd (k H locs ls hI hS hl)
theorem x_ior (C : XC κ own cc n d) {x y : Int32} (hd : decode cc pc = .ok (.ior, 1)) (k : XV κ I (pc + 1) L (.int (x ||| y) :: st)) : XV κ I (pc) L (.int y :: .int x :: st) := by
  obtain ⟨p, l, e, R, s, m, args, below, meth, c, Q, A, nL, cells, slots⟩ := κ
  intro H locs ls hI hS hl
  exact lv_ior C.1 C.2.1 hd (k H locs ls hI hS hl)
theorem x_ixor (C : XC κ own cc n d) {x y : Int32} (hd : decode cc pc = .ok (.ixor, 1)) (k : XV κ I (pc + 1) L (.int (x ^^^ y) :: st)) : XV κ I (pc) L (.int y :: .int x :: st) := by
  obtain ⟨p, l, e, R, s, m, args, below, meth, c, Q, A, nL, cells, slots⟩ := κ
  intro H locs ls hI hS hl
  exact lv_ixor C.1 C.2.1 hd (k H locs ls hI hS hl)
theorem x_ishl (C : XC κ own cc n d) {x y : Int32} (hd : decode cc pc = .ok (.ishl, 1)) (k : XV κ I (pc + 1) L (.int (x <<< (y &&& 31)) :: st)) : XV κ I (pc) L (.int y :: .int x :: st) := by
  obtain ⟨p, l, e, R, s, m, args, below, meth, c, Q, A, nL, cells, slots⟩ := κ
  intro H locs ls hI hS hl
  exact lv_ishl C.1 C.2.1 hd (k H locs ls hI hS hl)
theorem x_ishr (C : XC κ own cc n d) {x y : Int32} (hd : decode cc pc = .ok (.ishr, 1)) (k : XV κ I (pc + 1) L (.int (x >>> (y &&& 31)) :: st)) : XV κ I (pc) L (.int y :: .int x :: st) := by
  obtain ⟨p, l, e, R, s, m, args, below, meth, c, Q, A, nL, cells, slots⟩ := κ
  intro H locs ls hI hS hl
  exact lv_ishr C.1 C.2.1 hd (k H locs ls hI hS hl)
theorem x_idiv (C : XC κ own cc n d) {x y : Int32} (hd : decode cc pc = .ok (.idiv, 1)) (hne : ¬ y = 0) (k : XV κ I (pc + 1) L (.int (x / y) :: st)) : XV κ I (pc) L (.int y :: .int x :: st) := by
  obtain ⟨p, l, e, R, s, m, args, below, meth, c, Q, A, nL, cells, slots⟩ := κ
  intro H locs ls hI hS hl
  exact lv_idiv C.1 C.2.1 hd hne (k H locs ls hI hS hl)
theorem x_irem (C : XC κ own cc n d) {x y : Int32} (hd : decode cc pc = .ok (.irem, 1)) (hne : ¬ y = 0) (k : XV κ I (pc + 1) L (.int (x - x / y * y) :: st)) : XV κ I (pc) L (.int y :: .int x :: st) := by
  obtain ⟨p, l, e, R, s, m, args, below, meth, c, Q, A, nL, cells, slots⟩ := κ
  intro H locs ls hI hS hl
  exact lv_irem C.1 C.2.1 hd hne (k H locs ls hI hS hl)
theorem x_ladd (C : XC κ own cc n d) {x y : Int64} (hd : decode cc pc = .ok (.ladd, 1)) (k : XV κ I (pc + 1) L (.long (x + y) :: st)) : XV κ I (pc) L (.long y :: .long x :: st) := by
  obtain ⟨p, l, e, R, s, m, args, below, meth, c, Q, A, nL, cells, slots⟩ := κ
  intro H locs ls hI hS hl
  exact lv_ladd C.1 C.2.1 hd (k H locs ls hI hS hl)
theorem x_lsub (C : XC κ own cc n d) {x y : Int64} (hd : decode cc pc = .ok (.lsub, 1)) (k : XV κ I (pc + 1) L (.long (x - y) :: st)) : XV κ I (pc) L (.long y :: .long x :: st) := by
  obtain ⟨p, l, e, R, s, m, args, below, meth, c, Q, A, nL, cells, slots⟩ := κ
  intro H locs ls hI hS hl
  exact lv_lsub C.1 C.2.1 hd (k H locs ls hI hS hl)
theorem x_lmul (C : XC κ own cc n d) {x y : Int64} (hd : decode cc pc = .ok (.lmul, 1)) (k : XV κ I (pc + 1) L (.long (x * y) :: st)) : XV κ I (pc) L (.long y :: .long x :: st) := by
  obtain ⟨p, l, e, R, s, m, args, below, meth, c, Q, A, nL, cells, slots⟩ := κ
  intro H locs ls hI hS hl
  exact lv_lmul C.1 C.2.1 hd (k H locs ls hI hS hl)
theorem x_ldiv (C : XC κ own cc n d) {x y : Int64} (hd : decode cc pc = .ok (.ldiv, 1)) (hne : ¬ y = 0) (k : XV κ I (pc + 1) L (.long (x / y) :: st)) : XV κ I (pc) L (.long y :: .long x :: st) := by
  obtain ⟨p, l, e, R, s, m, args, below, meth, c, Q, A, nL, cells, slots⟩ := κ
  intro H locs ls hI hS hl
  exact lv_ldiv C.1 C.2.1 hd hne (k H locs ls hI hS hl)
theorem x_lrem (C : XC κ own cc n d) {x y : Int64} (hd : decode cc pc = .ok (.lrem, 1)) (hne : ¬ y = 0) (k : XV κ I (pc + 1) L (.long (x - x / y * y) :: st)) : XV κ I (pc) L (.long y :: .long x :: st) := by
  obtain ⟨p, l, e, R, s, m, args, below, meth, c, Q, A, nL, cells, slots⟩ := κ
  intro H locs ls hI hS hl
  exact lv_lrem C.1 C.2.1 hd hne (k H locs ls hI hS hl)
theorem x_lcmp (C : XC κ own cc n d) {x y : Int64} (hd : decode cc pc = .ok (.lcmp, 1)) (k : XV κ I (pc + 1) L (.int (lg_cmp x y) :: st)) : XV κ I (pc) L (.long y :: .long x :: st) := by
  obtain ⟨p, l, e, R, s, m, args, below, meth, c, Q, A, nL, cells, slots⟩ := κ
  intro H locs ls hI hS hl
  exact W.lcmp C.1 C.2.1 hd (k H locs ls hI hS hl)
theorem x_iushr (C : XC κ own cc n d) {x y : Int32} (hd : decode cc pc = .ok (.iushr, 1)) (k : XV κ I (pc + 1) L (.int (x.toUInt32 >>> (y.toUInt32 &&& Int32.toUInt32 31)).toInt32 :: st)) : XV κ I (pc) L (.int y :: .int x :: st) := by
  obtain ⟨p, l, e, R, s, m, args, below, meth, c, Q, A, nL, cells, slots⟩ := κ
  intro H locs ls hI hS hl
  exact lv_iushr C.1 C.2.1 hd rfl (k H locs ls hI hS hl)
theorem x_ineg (C : XC κ own cc n d) {x : Int32} (hd : decode cc pc = .ok (.ineg, 1)) (k : XV κ I (pc + 1) L (.int (-x) :: st)) : XV κ I (pc) L (.int x :: st) := by
  obtain ⟨p, l, e, R, s, m, args, below, meth, c, Q, A, nL, cells, slots⟩ := κ
  intro H locs ls hI hS hl
  exact lv_ineg C.1 C.2.1 hd (k H locs ls hI hS hl)
theorem x_i2l (C : XC κ own cc n d) {x : Int32} (hd : decode cc pc = .ok (.i2l, 1)) (k : XV κ I (pc + 1) L (.long (x.toInt64) :: st)) : XV κ I (pc) L (.int x :: st) := by
  obtain ⟨p, l, e, R, s, m, args, below, meth, c, Q, A, nL, cells, slots⟩ := κ
  intro H locs ls hI hS hl
  exact lv_i2l C.1 C.2.1 hd rfl (k H locs ls hI hS hl)
theorem x_l2i (C : XC κ own cc n d) {x : Int64} (hd : decode cc pc = .ok (.l2i, 1)) (k : XV κ I (pc + 1) L (.int (x.toInt32) :: st)) : XV κ I (pc) L (.long x :: st) := by
  obtain ⟨p, l, e, R, s, m, args, below, meth, c, Q, A, nL, cells, slots⟩ := κ
  intro H locs ls hI hS hl
  exact lv_l2i C.1 C.2.1 hd rfl (k H locs ls hI hS hl)
theorem x_i2b (C : XC κ own cc n d) {x : Int32} (hd : decode cc pc = .ok (.i2b, 1)) (k : XV κ I (pc + 1) L (.int (x.toInt8.toInt32) :: st)) : XV κ I (pc) L (.int x :: st) := by
  obtain ⟨p, l, e, R, s, m, args, below, meth, c, Q, A, nL, cells, slots⟩ := κ
  intro H locs ls hI hS hl
  exact lv_i2b C.1 C.2.1 hd rfl (k H locs ls hI hS hl)
theorem x_i2s (C : XC κ own cc n d) {x : Int32} (hd : decode cc pc = .ok (.i2s, 1)) (k : XV κ I (pc + 1) L (.int (x.toInt16.toInt32) :: st)) : XV κ I (pc) L (.int x :: st) := by
  obtain ⟨p, l, e, R, s, m, args, below, meth, c, Q, A, nL, cells, slots⟩ := κ
  intro H locs ls hI hS hl
  exact lv_i2s C.1 C.2.1 hd rfl (k H locs ls hI hS hl)
theorem x_i2c (C : XC κ own cc n d) {x : Int32} (hd : decode cc pc = .ok (.i2c, 1)) (k : XV κ I (pc + 1) L (.int ((x.toUInt32 % 65536).toInt32) :: st)) : XV κ I (pc) L (.int x :: st) := by
  obtain ⟨p, l, e, R, s, m, args, below, meth, c, Q, A, nL, cells, slots⟩ := κ
  intro H locs ls hI hS hl
  exact lv_i2c C.1 C.2.1 hd rfl (k H locs ls hI hS hl)
theorem x_if_eq (C : XC κ own cc n d) {x : Int32} {off : Int} (tgt : Nat) (hd : decode cc pc = .ok (.ifCond .eq off, 3)) (ht : (pc : Int) + off = (tgt : Int)) (kt : x = 0 → XV κ I tgt L st) (kf : ¬ x = 0 → XV κ I (pc + 3) L st) : XV κ I pc L (.int x :: st) := by
  obtain ⟨p, l, e, R, s, m, args, below, meth, c, Q, A, nL, cells, slots⟩ := κ
  intro H locs ls hI hS hl
  exact lv_if_eq C.1 C.2.1 hd ht (fun h => kt h H locs ls hI hS hl) (fun h => kf h H locs ls hI hS hl)
theorem x_if_eq_t (C : XC κ own cc n d) {x : Int32} {off : Int} (tgt : Nat) (hd : decode cc pc = .ok (.ifCond .eq off, 3)) (ht : (pc : Int) + off = (tgt : Int)) (hc : x = 0) (k : XV κ I tgt L st) : XV κ I pc L (.int x :: st) := x_if_eq C tgt hd ht (fun _ => k) (fun h => absurd hc h)
theorem x_if_eq_f (C : XC κ own cc n d) {x : Int32} {off : Int} (tgt : Nat) (hd : decode cc pc = .ok (.ifCond .eq off, 3)) (ht : (pc : Int) + off = (tgt : Int)) (hc : ¬ x = 0) (k : XV κ I (pc + 3) L st) : XV κ I pc L (.int x :: st) := x_if_eq C tgt hd ht (fun h => absurd h hc) (fun _ => k)
theorem x_icmp_eq (C : XC κ own cc n d) {x y : Int32} {off : Int} (tgt : Nat) (hd : decode cc pc = .ok (.if_icmp .eq off, 3)) (ht : (pc : Int) + off = (tgt : Int)) (kt : x = y → XV κ I tgt L st) (kf : ¬ x = y → XV κ I (pc + 3) L st) : XV κ I pc L (.int y :: .int x :: st) := by
  obtain ⟨p, l, e, R, s, m, args, below, meth, c, Q, A, nL, cells, slots⟩ := κ
  intro H locs ls hI hS hl
  exact lv_icmp_eq C.1 C.2.1 hd ht (fun h => kt h H locs ls hI hS hl) (fun h => kf h H locs ls hI hS hl)
theorem x_icmp_eq_t (C : XC κ own cc n d) {x y : Int32} {off : Int} (tgt : Nat) (hd : decode cc pc = .ok (.if_icmp .eq off, 3)) (ht : (pc : Int) + off = (tgt : Int)) (hc : x = y) (k : XV κ I tgt L st) : XV κ I pc L (.int y :: .int x :: st) := x_icmp_eq C tgt hd ht (fun _ => k) (fun h => absurd hc h)
theorem x_icmp_eq_f (C : XC κ own cc n d) {x y : Int32} {off : Int} (tgt : Nat) (hd : decode cc pc = .ok (.if_icmp .eq off, 3)) (ht : (pc : Int) + off = (tgt : Int)) (hc : ¬ x = y) (k : XV κ I (pc + 3) L st) : XV κ I pc L (.int y :: .int x :: st) := x_icmp_eq C tgt hd ht (fun h => absurd h hc) (fun _ => k)
theorem x_if_ne (C : XC κ own cc n d) {x : Int32} {off : Int} (tgt : Nat) (hd : decode cc pc = .ok (.ifCond .ne off, 3)) (ht : (pc : Int) + off = (tgt : Int)) (kt : ¬ x = 0 → XV κ I tgt L st) (kf : x = 0 → XV κ I (pc + 3) L st) : XV κ I pc L (.int x :: st) := by
  obtain ⟨p, l, e, R, s, m, args, below, meth, c, Q, A, nL, cells, slots⟩ := κ
  intro H locs ls hI hS hl
  exact lv_if_ne C.1 C.2.1 hd ht (fun h => kt h H locs ls hI hS hl) (fun h => kf h H locs ls hI hS hl)
theorem x_if_ne_t (C : XC κ own cc n d) {x : Int32} {off : Int} (tgt : Nat) (hd : decode cc pc = .ok (.ifCond .ne off, 3)) (ht : (pc : Int) + off = (tgt : Int)) (hc : ¬ x = 0) (k : XV κ I tgt L st) : XV κ I pc L (.int x :: st) := x_if_ne C tgt hd ht (fun _ => k) (fun h => absurd h hc)
theorem x_if_ne_f (C : XC κ own cc n d) {x : Int32} {off : Int} (tgt : Nat) (hd : decode cc pc = .ok (.ifCond .ne off, 3)) (ht : (pc : Int) + off = (tgt : Int)) (hc : x = 0) (k : XV κ I (pc + 3) L st) : XV κ I pc L (.int x :: st) := x_if_ne C tgt hd ht (fun h => absurd hc h) (fun _ => k)
theorem x_icmp_ne (C : XC κ own cc n d) {x y : Int32} {off : Int} (tgt : Nat) (hd : decode cc pc = .ok (.if_icmp .ne off, 3)) (ht : (pc : Int) + off = (tgt : Int)) (kt : ¬ x = y → XV κ I tgt L st) (kf : x = y → XV κ I (pc + 3) L st) : XV κ I pc L (.int y :: .int x :: st) := by
  obtain ⟨p, l, e, R, s, m, args, below, meth, c, Q, A, nL, cells, slots⟩ := κ
  intro H locs ls hI hS hl
  exact lv_icmp_ne C.1 C.2.1 hd ht (fun h => kt h H locs ls hI hS hl) (fun h => kf h H locs ls hI hS hl)
theorem x_icmp_ne_t (C : XC κ own cc n d) {x y : Int32} {off : Int} (tgt : Nat) (hd : decode cc pc = .ok (.if_icmp .ne off, 3)) (ht : (pc : Int) + off = (tgt : Int)) (hc : ¬ x = y) (k : XV κ I tgt L st) : XV κ I pc L (.int y :: .int x :: st) := x_icmp_ne C tgt hd ht (fun _ => k) (fun h => absurd h hc)
theorem x_icmp_ne_f (C : XC κ own cc n d) {x y : Int32} {off : Int} (tgt : Nat) (hd : decode cc pc = .ok (.if_icmp .ne off, 3)) (ht : (pc : Int) + off = (tgt : Int)) (hc : x = y) (k : XV κ I (pc + 3) L st) : XV κ I pc L (.int y :: .int x :: st) := x_icmp_ne C tgt hd ht (fun h => absurd hc h) (fun _ => k)
theorem x_if_lt (C : XC κ own cc n d) {x : Int32} {off : Int} (tgt : Nat) (hd : decode cc pc = .ok (.ifCond .lt off, 3)) (ht : (pc : Int) + off = (tgt : Int)) (kt : x < 0 → XV κ I tgt L st) (kf : ¬ x < 0 → XV κ I (pc + 3) L st) : XV κ I pc L (.int x :: st) := by
  obtain ⟨p, l, e, R, s, m, args, below, meth, c, Q, A, nL, cells, slots⟩ := κ
  intro H locs ls hI hS hl
  exact lv_if_lt C.1 C.2.1 hd ht (fun h => kt h H locs ls hI hS hl) (fun h => kf h H locs ls hI hS hl)
theorem x_if_lt_t (C : XC κ own cc n d) {x : Int32} {off : Int} (tgt : Nat) (hd : decode cc pc = .ok (.ifCond .lt off, 3)) (ht : (pc : Int) + off = (tgt : Int)) (hc : x < 0) (k : XV κ I tgt L st) : XV κ I pc L (.int x :: st) := x_if_lt C tgt hd ht (fun _ => k) (fun h => absurd hc h)
theorem x_if_lt_f (C : XC κ own cc n d) {x : Int32} {off : Int} (tgt : Nat) (hd : decode cc pc = .ok (.ifCond .lt off, 3)) (ht : (pc : Int) + off = (tgt : Int)) (hc : ¬ x < 0) (k : XV κ I (pc + 3) L st) : XV κ I pc L (.int x :: st) := x_if_lt C tgt hd ht (fun h => absurd h hc) (fun _ => k)
theorem x_icmp_lt (C : XC κ own cc n d) {x y : Int32} {off : Int} (tgt : Nat) (hd : decode cc pc = .ok (.if_icmp .lt off, 3)) (ht : (pc : Int) + off = (tgt : Int)) (kt : x < y → XV κ I tgt L st) (kf : ¬ x < y → XV κ I (pc + 3) L st) : XV κ I pc L (.int y :: .int x :: st) := by
  obtain ⟨p, l, e, R, s, m, args, below, meth, c, Q, A, nL, cells, slots⟩ := κ
  intro H locs ls hI hS hl
  exact lv_icmp_lt C.1 C.2.1 hd ht (fun h => kt h H locs ls hI hS hl) (fun h => kf h H locs ls hI hS hl)
theorem x_icmp_lt_t (C : XC κ own cc n d) {x y : Int32} {off : Int} (tgt : Nat) (hd : decode cc pc = .ok (.if_icmp .lt off, 3)) (ht : (pc : Int) + off = (tgt : Int)) (hc : x < y) (k : XV κ I tgt L st) : XV κ I pc L (.int y :: .int x :: st) := x_icmp_lt C tgt hd ht (fun _ => k) (fun h => absurd hc h)
theorem x_icmp_lt_f (C : XC κ own cc n d) {x y : Int32} {off : Int} (tgt : Nat) (hd : decode cc pc = .ok (.if_icmp .lt off, 3)) (ht : (pc : Int) + off = (tgt : Int)) (hc : ¬ x < y) (k : XV κ I (pc + 3) L st) : XV κ I pc L (.int y :: .int x :: st) := x_icmp_lt C tgt hd ht (fun h => absurd h hc) (fun _ => k)
theorem x_if_ge (C : XC κ own cc n d) {x : Int32} {off : Int} (tgt : Nat) (hd : decode cc pc = .ok (.ifCond .ge off, 3)) (ht : (pc : Int) + off = (tgt : Int)) (kt : 0 ≤ x → XV κ I tgt L st) (kf : ¬ 0 ≤ x → XV κ I (pc + 3) L st) : XV κ I pc L (.int x :: st) := by
  obtain ⟨p, l, e, R, s, m, args, below, meth, c, Q, A, nL, cells, slots⟩ := κ
  intro H locs ls hI hS hl
  exact lv_if_ge C.1 C.2.1 hd ht (fun h => kt h H locs ls hI hS hl) (fun h => kf h H locs ls hI hS hl)
theorem x_if_ge_t (C : XC κ own cc n d) {x : Int32} {off : Int} (tgt : Nat) (hd : decode cc pc = .ok (.ifCond .ge off, 3)) (ht : (pc : Int) + off = (tgt : Int)) (hc : 0 ≤ x) (k : XV κ I tgt L st) : XV κ I pc L (.int x :: st) := x_if_ge C tgt hd ht (fun _ => k) (fun h => absurd hc h)
theorem x_if_ge_f (C : XC κ own cc n d) {x : Int32} {off : Int} (tgt : Nat) (hd : decode cc pc = .ok (.ifCond .ge off, 3)) (ht : (pc : Int) + off = (tgt : Int)) (hc : ¬ 0 ≤ x) (k : XV κ I (pc + 3) L st) : XV κ I pc L (.int x :: st) := x_if_ge C tgt hd ht (fun h => absurd h hc) (fun _ => k)
theorem x_icmp_ge (C : XC κ own cc n d) {x y : Int32} {off : Int} (tgt : Nat) (hd : decode cc pc = .ok (.if_icmp .ge off, 3)) (ht : (pc : Int) + off = (tgt : Int)) (kt : y ≤ x → XV κ I tgt L st) (kf : ¬ y ≤ x → XV κ I (pc + 3) L st) : XV κ I pc L (.int y :: .int x :: st) := by
  obtain ⟨p, l, e, R, s, m, args, below, meth, c, Q, A, nL, cells, slots⟩ := κ
  intro H locs ls hI hS hl
  exact lv_icmp_ge C.1 C.2.1 hd ht (fun h => kt h H locs ls hI hS hl) (fun h => kf h H locs ls hI hS hl)
theorem x_icmp_ge_t (C : XC κ own cc n d) {x y : Int32} {off : Int} (tgt : Nat) (hd : decode cc pc = .ok (.if_icmp .ge off, 3)) (ht : (pc : Int) + off = (tgt : Int)) (hc : y ≤ x) (k : XV κ I tgt L st) : XV κ I pc L (.int y :: .int x :: st) := x_icmp_ge C tgt hd ht (fun _ => k) (fun h => absurd hc h)
theorem x_icmp_ge_f (C : XC κ own cc n d) {x y : Int32} {off : Int} (tgt : Nat) (hd : decode cc pc = .ok (.if_icmp .ge off, 3)) (ht : (pc : Int) + off = (tgt : Int)) (hc : ¬ y ≤ x) (k : XV κ I (pc + 3) L st) : XV κ I pc L (.int y :: .int x :: st) := x_icmp_ge C tgt hd ht (fun h => absurd h hc) (fun _ => k)
theorem x_if_gt (C : XC κ own cc n d) {x : Int32} {off : Int} (tgt : Nat) (hd : decode cc pc = .ok (.ifCond .gt off, 3)) (ht : (pc : Int) + off = (tgt : Int)) (kt : 0 < x → XV κ I tgt L st) (kf : ¬ 0 < x → XV κ I (pc + 3) L st) : XV κ I pc L (.int x :: st) := by
  obtain ⟨p, l, e, R, s, m, args, below, meth, c, Q, A, nL, cells, slots⟩ := κ
  intro H locs ls hI hS hl
  exact lv_if_gt C.1 C.2.1 hd ht (fun h => kt h H locs ls hI hS hl) (fun h => kf h H locs ls hI hS hl)
theorem x_if_gt_t (C : XC κ own cc n d) {x : Int32} {off : Int} (tgt : Nat) (hd : decode cc pc = .ok (.ifCond .gt off, 3)) (ht : (pc : Int) + off = (tgt : Int)) (hc : 0 < x) (k : XV κ I tgt L st) : XV κ I pc L (.int x :: st) := x_if_gt C tgt hd ht (fun _ => k) (fun h => absurd hc h)
theorem x_if_gt_f (C : XC κ own cc n d) {x : Int32} {off : Int} (tgt : Nat) (hd : decode cc pc = .ok (.ifCond .gt off, 3)) (ht : (pc : Int) + off = (tgt : Int)) (hc : ¬ 0 < x) (k : XV κ I (pc + 3) L st) : XV κ I pc L (.int x :: st) := x_if_gt C tgt hd ht (fun h => absurd h hc) (fun _ => k)
theorem x_icmp_gt (C : XC κ own cc n d) {x y : Int32} {off : Int} (tgt : Nat) (hd : decode cc pc = .ok (.if_icmp .gt off, 3)) (ht : (pc : Int) + off = (tgt : Int)) (kt : y < x → XV κ I tgt L st) (kf : ¬ y < x → XV κ I (pc + 3) L st) : XV κ I pc L (.int y :: .int x :: st) := by
  obtain ⟨p, l, e, R, s, m, args, below, meth, c, Q, A, nL, cells, slots⟩ := κ
  intro H locs ls hI hS hl
  exact lv_icmp_gt C.1 C.2.1 hd ht (fun h => kt h H locs ls hI hS hl) (fun h => kf h H locs ls hI hS hl)
theorem x_icmp_gt_t (C : XC κ own cc n d) {x y : Int32} {off : Int} (tgt : Nat) (hd : decode cc pc = .ok (.if_icmp .gt off, 3)) (ht : (pc : Int) + off = (tgt : Int)) (hc : y < x) (k : XV κ I tgt L st) : XV κ I pc L (.int y :: .int x :: st) := x_icmp_gt C tgt hd ht (fun _ => k) (fun h => absurd hc h)
theorem x_icmp_gt_f (C : XC κ own cc n d) {x y : Int32} {off : Int} (tgt : Nat) (hd : decode cc pc = .ok (.if_icmp .gt off, 3)) (ht : (pc : Int) + off = (tgt : Int)) (hc : ¬ y < x) (k : XV κ I (pc + 3) L st) : XV κ I pc L (.int y :: .int x :: st) := x_icmp_gt C tgt hd ht (fun h => absurd h hc) (fun _ => k)
theorem x_if_le (C : XC κ own cc n d) {x : Int32} {off : Int} (tgt : Nat) (hd : decode cc pc = .ok (.ifCond .le off, 3)) (ht : (pc : Int) + off = (tgt : Int)) (kt : x ≤ 0 → XV κ I tgt L st) (kf : ¬ x ≤ 0 → XV κ I (pc + 3) L st) : XV κ I pc L (.int x :: st) := by
  obtain ⟨p, l, e, R, s, m, args, below, meth, c, Q, A, nL, cells, slots⟩ := κ
  intro H locs ls hI hS hl
  exact lv_if_le C.1 C.2.1 hd ht (fun h => kt h H locs ls hI hS hl) (fun h => kf h H locs ls hI hS hl)
theorem x_if_le_t (C : XC κ own cc n d) {x : Int32} {off : Int} (tgt : Nat) (hd : decode cc pc = .ok (.ifCond .le off, 3)) (ht : (pc : Int) + off = (tgt : Int)) (hc : x ≤ 0) (k : XV κ I tgt L st) : XV κ I pc L (.int x :: st) := x_if_le C tgt hd ht (fun _ => k) (fun h => absurd hc h)
theorem x_if_le_f (C : XC κ own cc n d) {x : Int32} {off : Int} (tgt : Nat) (hd : decode cc pc = .ok (.ifCond .le off, 3)) (ht : (pc : Int) + off = (tgt : Int)) (hc : ¬ x ≤ 0) (k : XV κ I (pc + 3) L st) : XV κ I pc L (.int x :: st) := x_if_le C tgt hd ht (fun h => absurd h hc) (fun _ => k)
theorem x_icmp_le (C : XC κ own cc n d) {x y : Int32} {off : Int} (tgt : Nat) (hd : decode cc pc = .ok (.if_icmp .le off, 3)) (ht : (pc : Int) + off = (tgt : Int)) (kt : x ≤ y → XV κ I tgt L st) (kf : ¬ x ≤ y → XV κ I (pc + 3) L st) : XV κ I pc L (.int y :: .int x :: st) := by
  obtain ⟨p, l, e, R, s, m, args, below, meth, c, Q, A, nL, cells, slots⟩ := κ
  intro H locs ls hI hS hl
  exact lv_icmp_le C.1 C.2.1 hd ht (fun h => kt h H locs ls hI hS hl) (fun h => kf h H locs ls hI hS hl)
theorem x_icmp_le_t (C : XC κ own cc n d) {x y : Int32} {off : Int} (tgt : Nat) (hd : decode cc pc = .ok (.if_icmp .le off, 3)) (ht : (pc : Int) + off = (tgt : Int)) (hc : x ≤ y) (k : XV κ I tgt L st) : XV κ I pc L (.int y :: .int x :: st) := x_icmp_le C tgt hd ht (fun _ => k) (fun h => absurd hc h)
theorem x_icmp_le_f (C : XC κ own cc n d) {x y : Int32} {off : Int} (tgt : Nat) (hd : decode cc pc = .ok (.if_icmp .le off, 3)) (ht : (pc : Int) + off = (tgt : Int)) (hc : ¬ x ≤ y) (k : XV κ I (pc + 3) L st) : XV κ I pc L (.int y :: .int x :: st) := x_icmp_le C tgt hd ht (fun h => absurd h hc) (fun _ => k)
theorem x_lookup (C : XC κ own cc n d) {dflt : Int} {ps : Array (Int × Int)} {len : Nat} {x : Int32} {off : Int} (tgt : Nat) (hd : decode cc pc = .ok (.lookupswitch dflt ps, len)) (hp : (ps.toList.zip (ps.toList.drop 1)).all (fun (a, next) => a.1 < next.1) = true) (ho : Op.lookupswitch.offset ps.toList dflt x.toInt = off) (ht : (pc : Int) + off = (tgt : Int)) (k : XV κ I tgt L st) : XV κ I pc L (.int x :: st) := by
  obtain ⟨p, l, e, R, s, m, args, below, meth, c, Q, A, nL, cells, slots⟩ := κ
  intro H locs ls hI hS hl
  exact lv_lookup C.1 C.2.1 hd hp ho ht (k H locs ls hI hS hl)
theorem x_tableOut (C : XC κ own cc n d) {dflt lo hi : Int} {offs : Array Int} {len : Nat} {x : Int32} (tgt : Nat) (hd : decode cc pc = .ok (.tableswitch dflt lo hi offs, len)) (h : x.toInt < lo ∨ hi < x.toInt) (ht : (pc : Int) + dflt = (tgt : Int)) (k : XV κ I tgt L st) : XV κ I pc L (.int x :: st) := by
  obtain ⟨p, l, e, R, s, m, args, below, meth, c, Q, A, nL, cells, slots⟩ := κ
  intro H locs ls hI hS hl
  exact lv_tableOut C.1 C.2.1 hd h ht (k H locs ls hI hS hl)
theorem x_tableIn (C : XC κ own cc n d) {dflt lo hi : Int} {offs : Array Int} {len : Nat} {x : Int32} {off : Int} (tgt : Nat) (hd : decode cc pc = .ok (.tableswitch dflt lo hi offs, len)) (h1 : ¬ x.toInt < lo) (h2 : ¬ hi < x.toInt) (ho : offs[(x.toInt - lo).toNat]? = some off) (ht : (pc : Int) + off = (tgt : Int)) (k : XV κ I tgt L st) : XV κ I pc L (.int x :: st) := by
  obtain ⟨p, l, e, R, s, m, args, below, meth, c, Q, A, nL, cells, slots⟩ := κ
  intro H locs ls hI hS hl
  exact lv_tableIn C.1 C.2.1 hd h1 h2 ho ht (k H locs ls hI hS hl)
end XROWS
section XRET
variable {κ : XK} {own : String} {cc : ByteArray} {n d : Nat} {w : XW} {M : MM} {φ : XF} {pc : Nat} {L : List (Nat × Value)}
theorem x_iret (C : XC κ own cc n d) (X : XR κ w φ (some .int)) {v : Int32} (hd : decode cc pc = .ok (.ireturn, 1)) (h : φ (some (.int v)) M) : XV κ (xP w M) pc L [.int v] := by
  obtain ⟨p, l, e, R, s, m, args, below, meth, c, Q, A, nL, cells, slots⟩ := κ
  obtain ⟨hr, hlk, rfl, rfl⟩ := X
  intro H locs ls hI hS hl
  exact W.iret (v := v) C.1 C.2.1 hr (fun t ht hW => ⟨_, M, rfl, h, by rw [ht]; exact hI, hS.F ht⟩) hS.2.2 hd hlk
theorem x_zret (C : XC κ own cc n d) {ty : FieldType} (X : XR κ w φ (some ty)) {v : Int32} (hn : narrow ty (.int v) = .int v) (hd : decode cc pc = .ok (.ireturn, 1)) (h : φ (some (.int v)) M) : XV κ (xP w M) pc L [.int v] := by
  obtain ⟨p, l, e, R, s, m, args, below, meth, c, Q, A, nL, cells, slots⟩ := κ
  obtain ⟨hr, hlk, rfl, rfl⟩ := X
  intro H locs ls hI hS hl
  exact W.zret (v := v) C.1 C.2.1 hr hn (fun t ht hW => ⟨_, M, rfl, h, by rw [ht]; exact hI, hS.F ht⟩) hS.2.2 hd hlk
theorem x_lret (C : XC κ own cc n d) (X : XR κ w φ (some .long)) {v : Int64} (hd : decode cc pc = .ok (.lreturn, 1)) (h : φ (some (.long v)) M) : XV κ (xP w M) pc L [.long v] := by
  obtain ⟨p, l, e, R, s, m, args, below, meth, c, Q, A, nL, cells, slots⟩ := κ
  obtain ⟨hr, hlk, rfl, rfl⟩ := X
  intro H locs ls hI hS hl
  exact W.lret (v := v) C.1 C.2.1 hr (fun t ht hW => ⟨_, M, rfl, h, by rw [ht]; exact hI, hS.F ht⟩) hS.2.2 hd hlk
theorem x_aret (C : XC κ own cc n d) {cn : String} (X : XR κ w φ (some (.object cn))) {v : Nat} (hd : decode cc pc = .ok (.areturn, 1)) (h : φ (some (.ref v)) M) : XV κ (xP w M) pc L [.ref v] := by
  obtain ⟨p, l, e, R, s, m, args, below, meth, c, Q, A, nL, cells, slots⟩ := κ
  obtain ⟨hr, hlk, rfl, rfl⟩ := X
  intro H locs ls hI hS hl
  exact W.aret (v := .ref v) C.1 C.2.1 hr (Or.inl ⟨_, rfl⟩) (Or.inr ⟨_, rfl⟩) (fun t ht hW => ⟨_, M, rfl, h, by rw [ht]; exact hI, hS.F ht⟩) hS.2.2 hd hlk
theorem x_vret (C : XC κ own cc n d) (X : XR κ w φ none) (hd : decode cc pc = .ok (.return_, 1)) (h : φ none M) : XV κ (xP w M) pc L [] := by
  obtain ⟨p, l, e, R, s, m, args, below, meth, c, Q, A, nL, cells, slots⟩ := κ
  obtain ⟨hr, hlk, rfl, rfl⟩ := X
  intro H locs ls hI hS hl
  exact W.vret C.1 C.2.1 hr (fun t ht hW => ⟨_, M, rfl, h, by rw [ht]; exact hI, hS.F ht⟩) hS.2.2 hd hlk
end XRET
/-! the heap's rows -/
section XHEAP
variable {κ : XK} {own : String} {cc : ByteArray} {n d : Nat} {w : XW} {M : MM} {pc : Nat} {L L' : List (Nat × Value)} {st : List Value}
theorem x_get (C : XC κ own cc n d) (E : XE κ w) {nm ci N index : Nat} {fs : List Value} {CN ref : String} {T : u_T} (k0 : Nat) (hn : nm < w.1) (hc : w.2.1 nm (M nm) = .inr (ci, fs)) (hcl : vwCl[ci]? = some (CN, T, N)) (hin : ∀ q ∈ u_ws CN T N, q ∈ wsL_law) (hk : k0 < N) (hlink : Cond.fieldLink own index ref (T k0).2.1 (T k0).2.2.1 ∈ wsL_law) (href : (T k0).1 = ref) {v : Value} (hv : fs[k0]? = some v) (hd : decode cc pc = .ok (.getfield index, 3))
    (k : XV κ (xP w M) (pc + 3) L (v :: st)) : XV κ (xP w M) pc L (.ref (w.2.2.1 nm) :: st) := by
  obtain ⟨p, l, e, R, s, m, args, below, meth, c, Q, A, nL, cells, slots⟩ := κ
  intro H locs ls hI hS hl
  exact va_get (D := w.2.2.2.1) (cl := vwCl) C.1 C.2.1 C.2.2.2.2.1 hin C.2.2.2.1 E.1 hI nm (by rw [xl_get hn, hc]) hcl k0 hk (C.2.2.2.2.1 _ hlink) (fun _ h => by rw [← href]; exact h) hv hd (k H locs ls hI hS hl)
theorem x_put (C : XC κ own cc n d) (E : XE κ w) {nm ci N index : Nat} {fs : List Value} {CN ref : String} {T : u_T} (k0 : Nat) (ty0 : Nat → FieldType) (hty : ∀ k, k < N → parseFieldDescriptor (T k).2.2.1 = some (ty0 k)) (hnm : ∀ a, a < N → ∀ b, b < N → a ≠ b → (T a).2.1 ≠ (T b).2.1) (hn : nm < w.1) (hc : w.2.1 nm (M nm) = .inr (ci, fs)) (hcl : vwCl[ci]? = some (CN, T, N)) (hin : ∀ q ∈ u_ws CN T N, q ∈ wsL_law) (hk : k0 < N) (hlink : Cond.fieldLink own index ref (T k0).2.1 (T k0).2.2.1 ∈ wsL_law) (href : (T k0).1 = ref) (hfin : (T k0).2.2.2 = false) {ty : FieldType} {v : Value} (hd0 : parseFieldDescriptor (T k0).2.2.1 = some ty) (hnw : narrow ty v = v) (hfit : fits ty v = true) (hlf : k0 < fs.length) {r : Nat → Int32} (hc' : w.2.1 nm r = .inr (ci, fs.set k0 v)) (hd : decode cc pc = .ok (.putfield index, 3))
    (k : XV κ (xP w (mr M nm r)) (pc + 3) L st) : XV κ (xP w M) pc L (v :: .ref (w.2.2.1 nm) :: st) := by
  obtain ⟨p, l, e, R, s, m, args, below, meth, c, Q, A, nL, cells, slots⟩ := κ
  intro H locs ls hI hS hl
  refine va_put (D := w.2.2.2.1) (cl := vwCl) C.1 C.2.1 C.2.2.2.2.1 hin ty0 hty hnm C.2.2.2.1 E.1 hI (xl_D E.2.1 E.2.2.1) hS nm (by rw [xl_get hn, hc]) hcl k0 hk (C.2.2.2.2.1 _ hlink) (fun _ h => by rw [← href]; exact h) hfin hd0 hnw hfit hlf hd (fun H1 locs1 hP1 _ hS1 => ?_)
  rw [← hc', xl_set] at hP1
  exact k H1 locs1 ls hP1 hS1 hl
theorem x_iald (C : XC κ own cc n d) (E : XE κ w) {nm N : Nat} {cA : ClassId} (t0 : Nat) (hn : nm < w.1) (hc : w.2.1 nm (M nm) = .inl (cA, N, .inl (M nm))) (ht : w.2.2.2.2.1[t0]? = some (cA, .int)) {i : Int32} (hin : vp_in i N) (hd : decode cc pc = .ok (.iaload, 1))
    (k : XV κ (xP w M) (pc + 1) L (.int (M nm i.toNatClampNeg) :: st)) : XV κ (xP w M) pc L (.int i :: .ref (w.2.2.1 nm) :: st) := by
  obtain ⟨p, l, e, R, s, m, args, below, meth, c, Q, A, nL, cells, slots⟩ := κ
  intro H locs ls hI hS hl
  exact va_iald (D := w.2.2.2.1) (cl := vwCl) C.1 C.2.1 E.1 hI nm t0 (by rw [xl_get hn, hc]) ht hin hd (k H locs ls hI hS hl)
theorem x_zald (C : XC κ own cc n d) (E : XE κ w) {nm N : Nat} {cA : ClassId} (t0 : Nat) (hn : nm < w.1) (hc : w.2.1 nm (M nm) = .inl (cA, N, .inl (M nm))) (ht : w.2.2.2.2.1[t0]? = some (cA, .boolean)) {i : Int32} (hin : vp_in i N) (hd : decode cc pc = .ok (.baload, 1))
    (k : XV κ (xP w M) (pc + 1) L (.int (M nm i.toNatClampNeg) :: st)) : XV κ (xP w M) pc L (.int i :: .ref (w.2.2.1 nm) :: st) := by
  obtain ⟨p, l, e, R, s, m, args, below, meth, c, Q, A, nL, cells, slots⟩ := κ
  intro H locs ls hI hS hl
  exact va_zald (D := w.2.2.2.1) (cl := vwCl) C.1 C.2.1 E.1 hI nm t0 (by rw [xl_get hn, hc]) ht hin hd (k H locs ls hI hS hl)
theorem x_iast (C : XC κ own cc n d) (E : XE κ w) {nm N : Nat} {cA : ClassId} (t0 : Nat) (hn : nm < w.1) (hc : ∀ r, w.2.1 nm r = .inl (cA, N, .inl r)) (ht : w.2.2.2.2.1[t0]? = some (cA, .int)) {i x : Int32} (hin : vp_in i N) (hd : decode cc pc = .ok (.iastore, 1))
    (k : XV κ (xP w (mu M nm i.toNatClampNeg x)) (pc + 1) L st) : XV κ (xP w M) pc L (.int x :: .int i :: .ref (w.2.2.1 nm) :: st) := by
  obtain ⟨p, l, e, R, s, m, args, below, meth, c, Q, A, nL, cells, slots⟩ := κ
  intro H locs ls hI hS hl
  refine va_iast (D := w.2.2.2.1) (cl := vwCl) C.1 C.2.1 E.1 hI (xl_D E.2.1 E.2.2.1) hS nm t0 (by rw [xl_get hn, hc]) ht hin hd (fun H1 locs1 hP1 _ hS1 => ?_)
  rw [← hc, xl_set] at hP1
  exact k H1 locs1 ls hP1 hS1 hl
theorem x_zast (C : XC κ own cc n d) (E : XE κ w) {nm N : Nat} {cA : ClassId} (t0 : Nat) (hn : nm < w.1) (hc : ∀ r, w.2.1 nm r = .inl (cA, N, .inl r)) (ht : w.2.2.2.2.1[t0]? = some (cA, .boolean)) {i x : Int32} (hin : vp_in i N) (hx : vp_nar .boolean x = x) (hd : decode cc pc = .ok (.bastore, 1))
    (k : XV κ (xP w (mu M nm i.toNatClampNeg x)) (pc + 1) L st) : XV κ (xP w M) pc L (.int x :: .int i :: .ref (w.2.2.1 nm) :: st) := by
  obtain ⟨p, l, e, R, s, m, args, below, meth, c, Q, A, nL, cells, slots⟩ := κ
  intro H locs ls hI hS hl
  refine va_zast (D := w.2.2.2.1) (cl := vwCl) C.1 C.2.1 E.1 hI (xl_D E.2.1 E.2.2.1) hS nm t0 (by rw [xl_get hn, hc]) ht hin hd (fun H1 locs1 hP1 _ hS1 => ?_)
  rw [hx, ← hc, xl_set] at hP1
  exact k H1 locs1 ls hP1 hS1 hl
theorem x_aald (C : XC κ own cc n d) (E : XE κ w) {nm N : Nat} {cA : ClassId} {CN : String} {f : Nat → Option Nat} (t0 : Nat) (hn : nm < w.1) (hc : w.2.1 nm (M nm) = .inl (cA, N, .inr (.inr (.inr (.inr f))))) (ht : w.2.2.2.2.1[t0]? = some (cA, .object CN)) {i : Int32} {a : Nat} (hin : vp_in i N) (ha : f i.toNatClampNeg = some a) (hd : decode cc pc = .ok (.aaload, 1))
    (k : XV κ (xP w M) (pc + 1) L (.ref a :: st)) : XV κ (xP w M) pc L (.int i :: .ref (w.2.2.1 nm) :: st) := by
  obtain ⟨p, l, e, R, s, m, args, below, meth, c, Q, A, nL, cells, slots⟩ := κ
  intro H locs ls hI hS hl
  refine va_aldq (D := w.2.2.2.1) (cl := vwCl) C.1 C.2.1 E.1 hI nm t0 (by rw [xl_get hn, hc]) ht hin hd ?_
  rw [ha]
  exact k H locs ls hI hS hl
theorem x_alen (C : XC κ own cc n d) (E : XE κ w) {nm : Nat} {cA : ClassId} {x : vp_A} {ty : FieldType} (t0 : Nat) (hn : nm < w.1) (hc : w.2.1 nm (M nm) = .inl (cA, x)) (ht : w.2.2.2.2.1[t0]? = some (cA, ty)) {v : Int32} (hv : Int32.ofNat x.1 = v) (hd : decode cc pc = .ok (.arraylength, 1))
    (k : XV κ (xP w M) (pc + 1) L (.int v :: st)) : XV κ (xP w M) pc L (.ref (w.2.2.1 nm) :: st) := by
  obtain ⟨p, l, e, R, s, m, args, below, meth, c, Q, A, nL, cells, slots⟩ := κ
  intro H locs ls hI hS hl
  exact va_alen (D := w.2.2.2.1) (cl := vwCl) C.1 C.2.1 E.1 hI nm t0 (by rw [xl_get hn, hc]) ht hv hd (k H locs ls hI hS hl)
theorem x_copyi (C : XC κ own cc n d) (E : XE κ w) (hd8 : 1 ≤ d) {n0 n1 N0 N1 index : Nat} {cA : ClassId} (t0 : Nat) (hn0 : n0 < w.1) (hc0 : w.2.1 n0 (M n0) = .inl (cA, N0, .inl (M n0))) (hn1 : n1 < w.1) (hc1 : ∀ r, w.2.1 n1 r = .inl (cA, N1, .inl r)) (ht : w.2.2.2.2.1[t0]? = some (cA, .int)) (hlink : Cond.methodLink own index arraycopyName ∈ wsL_law) (hnat : Cond.native arraycopyName ∈ wsL_law) (hstat : Cond.static arraycopyName ∈ wsL_law) (hini : Cond.initialized "java/lang/System" ∈ wsL_law)
    {a b x : Nat} (h1 : a < 2 ^ 31) (h2 : b < 2 ^ 31) (h3 : x < 2 ^ 31) (h4 : a + x ≤ N0) (h5 : b + x ≤ N1) (hst : (st.map fun v => v.category).sum = 0) (hd : decode cc pc = .ok (.invokestatic index, 3))
    (k : XV κ (xP w (mr M n1 (va_cpy (M n0) (M n1) a b x))) (pc + 3) L st) : XV κ (xP w M) pc L (.int (nI x) :: .int (nI b) :: .ref (w.2.2.1 n1) :: .int (nI a) :: .ref (w.2.2.1 n0) :: st) := by
  obtain ⟨p, l, e, R, s, m, args, below, meth, c, Q, A, nL, cells, slots⟩ := κ
  intro H locs ls hI hS hl
  refine va_copyi (D := w.2.2.2.1) (cl := vwCl) C.1 C.2.1 (by rw [C.2.2.1]; exact hl.1.symm) C.2.2.2.1 (C.2.2.2.2.1 _ hlink) (C.2.2.2.2.1 _ hnat) (C.2.2.2.2.1 _ hstat) (C.2.2.2.2.1 _ hini) E.1 hI (xl_D E.2.1 E.2.2.1) hS n0 n1 t0 t0 (by rw [xl_get hn0, hc0]) (by rw [xl_get hn1, hc1]) ht ht rfl (nI_pos h1) (nI_pos h2) (nI_pos h3) (by rw [nI_clamp h1, nI_clamp h3]; exact h4) (by rw [nI_clamp h2, nI_clamp h3]; exact h5) (fun _ _ => rfl) (Nat.le_trans hd8 C.2.2.2.2.2.1) ?_ hd (fun H1 locs1 hP1 _ hS1 => ?_)
  · rw [hst]
    have h40 : 40 * d ≤ R.locals := C.2.2.2.2.2.2.1
    have : nativeFrameWords "java/lang/System" "arraycopy" 5 + 11 ≤ 40 := by decide
    omega
  rw [nI_clamp h1, nI_clamp h2, nI_clamp h3, ← hc1, xl_set] at hP1
  exact k H1 locs1 ls hP1 hS1 hl
end XHEAP
/-! calls -/
/-- a name is an object of a class -/
def xo (w : XW) (nm : Nat) (CN : String) : Prop := nm < w.1 ∧ ∀ r, ∃ (ci N : Nat) (fs : List Value) (T : u_T), w.2.1 nm r = .inr (ci, fs) ∧ vwCl[ci]? = some (CN, T, N)
/-- what stands of a method for its calls (an instance method of its own class; a static one) -/
def xIM (y : MethodName) (cy : ByteArray) (ny : Nat) (ry : Option FieldType) (np : Nat) : Prop := Cond.instanceMethod y ∈ wsL_law ∧ Cond.selects y.cls y y ∈ wsL_law ∧ Cond.initialized y.cls ∈ wsL_law ∧ Cond.code y cy ny ry ∈ wsL_law ∧ (y.cls ≠ "java/lang/invoke/MethodHandle" ∧ y.cls ≠ "java/lang/invoke/VarHandle" ∧ (parseMethodDescriptor y.desc).map (fun d => d.parameters.length) = some np) ∧ ny ≤ 21
def xSM (y : MethodName) (cy : ByteArray) (ny : Nat) (ry : Option FieldType) (np : Nat) : Prop := Cond.static y ∈ wsL_law ∧ Cond.initialized y.cls ∈ wsL_law ∧ Cond.code y cy ny ry ∈ wsL_law ∧ (y.cls ≠ "java/lang/invoke/MethodHandle" ∧ y.cls ≠ "java/lang/invoke/VarHandle" ∧ (parseMethodDescriptor y.desc).map (fun d => d.parameters.length) = some np) ∧ ny ≤ 21
theorem x_good {q : Cond} (h : q ∈ wsL_law) : q ∈ wsL_law ∧ ((q.onTables && q.keeps) = true ∨ ∃ ty, q = .arrayClass ty) := ⟨h, good_of_word (List.all_eq_true.mp lw_good q h)⟩
theorem x_goodW {y : MethodName} {cy : ByteArray} {ny : Nat} {ry : Option FieldType} (h : Cond.code y cy ny ry ∈ wsL_law) : GoodIn wsL_law (Cond.code y cy ny ry :: wsL_law) := by
  intro q hq
  rcases List.mem_cons.mp hq with rfl | hq
  · exact x_good h
  · exact x_good hq
theorem xPre_blind {w : XW} {M : MM} {av : List Value} : FrameBlind (va_Pc av (xPre w M)) := fun a U g mk h =>
  ⟨h.1, h.2.1, va_K.moved (u := U) (U := U.calling g mk a) (Vm.Alike.refl U.vm) h.2.2.1, h.2.2.2.1, fun U' H' hvm hz hq => h.2.2.2.2.1 U' H' hvm hz hq, nest_same (s := U) (U := U.calling g mk a) rfl h.2.2.2.2.2⟩
section XCALL
variable {κ : XK} {own : String} {cc : ByteArray} {n d : Nat} {w : XW} {M : MM} {pc : Nat} {L : List (Nat × Value)}
theorem x_pre {p : Program} {l : Launch} {e : Env} {R : Room} {s : State} {m : MethodId} {args : Array Value} {below : List Frame} {meth : Method} {c : Code} {Q : State → Prop} {A : Nat → Prop} {nL cells slots : Nat} (E : XE (p, l, e, R, s, m, args, below, meth, c, Q, A, nL, cells, slots) w) {H : Heap} {locs : List Loc} (hI : xP w M H) (hS : va_S A s.heap H locs) {U : State} (hU : U.heap = H) (hW : s.WarmedH U.vm) : xPre w M U := by
  obtain ⟨hK, hxi, hAA, hX, hN⟩ := E
  refine ⟨by rw [hU]; exact hI, va_K.moved hW.alike hK, hxi, fun U' H' hvm hz hq => hX U' H' locs (State.WarmedH.trans hW hvm) ⟨Nat.le_trans hS.1 (by rw [← hU]; exact hz), fun q h1 h2 => ?_, hS.2.2⟩, nest_warm hW hN⟩
  rw [hq q (by rw [hU]; exact Nat.lt_of_lt_of_le h1 hS.1) (fun h => h2 (hAA q h)), hU]
  exact hS.2.1 q h1 h2
theorem x_after {p : Program} {l : Launch} {e : Env} {R : Room} {s : State} {m : MethodId} {args : Array Value} {below : List Frame} {meth : Method} {c : Code} {Q : State → Prop} {A : Nat → Prop} {nL cells slots : Nat} (E : XE (p, l, e, R, s, m, args, below, meth, c, Q, A, nL, cells, slots) w) {φ : XF} {rest st0 : List Value} {a : Array Value} {H : Heap} {locs : List Loc} {ls : Array Slot} (hr : va_Run p l e R s m args below meth c H locs cells slots 0 0 (F0 m pc ls st0) rest (xQ w φ a) (xA w)) (hS : va_S A s.heap H locs) (hl : lv_has ls nL L)
    (k : ∀ (r : Option Value) (M' : MM), φ r M' → XV (p, l, e, R, s, m, args, below, meth, c, Q, A, nL, cells, slots) (xP w M') (pc + 3) L (r.toList ++ rest)) : W p l e R s m args below meth c H locs cells slots Q (F0 m pc ls st0) := by
  intro T hT X
  obtain ⟨v, st₀, t, T', L', h0, X', hL, e1, e2, ⟨r, M', hv, hφ, hP', hz, hk⟩, st⟩ := hr T hT X
  cases hv
  rw [h0] at hz hk
  have hSn : va_S A s.heap T'.heap (locs ++ L') := ⟨Nat.le_trans hS.1 (by rw [e1]; exact hz), fun q h1 h2 => by rw [e1, hk q (Nat.lt_of_lt_of_le h1 hS.1) (fun z => h2 (E.2.2.1 q z))]; exact hS.2.1 q h1 h2, fun q hq => by
      rcases List.mem_append.mp hq with h | h
      · exact hS.2.2 q h
      · exact E.2.2.1 _ (hL q h)⟩
  obtain ⟨t2, a1, b1⟩ := k v M' hφ T'.heap (locs ++ L') ls (by rw [e1]; exact hP') hSn hl T' rfl X'
  exact ⟨t2, st t2 a1, b1⟩
theorem x_cwR {d d' : Nat} {R : Room} {ny : Nat} (h : d' < d) (h1 : d ≤ R.frames) (h2 : 40 * d ≤ R.locals) (hny : ny ≤ 21) : (RMd d').frames + 1 ≤ R.frames ∧ 8 + (ny + 11) + (RMd d').locals ≤ R.locals := by
  refine ⟨Nat.le_trans h h1, ?_⟩
  show 8 + (ny + 11) + 40 * d' ≤ R.locals
  omega
theorem x_recv {s : State} {H : Heap} {CN : String} {nm : Nat} (h : xo w nm CN) (hK : va_K w.2.2.2.1 vwCl w.2.2.2.2.1 s) (hI : xP w M H) : ∃ cell : Cell, H[w.2.2.1 nm]? = some cell ∧ cell.vm.isStatics = false ∧ s.vm.findClass CN = some cell.cls := by
  obtain ⟨hn, h⟩ := h
  obtain ⟨ci, N, fs, T, h1, h2⟩ := h (M nm)
  exact va_recv hK hI h2 (show (xl w M)[nm]? = some (w.2.2.1 nm, .inr (ci, fs)) by rw [xl_get hn, h1])
theorem x_callV (C : XC κ own cc n d) (E : XE κ w) {y : MethodName} {cy : ByteArray} {ny d' np index nm : Nat} {ry : Option FieldType} {φ : XF} (As rest : List Value) (hM : XMet w y cy ny ry d' (.ref (w.2.2.1 nm) :: As) M φ) (hy : xIM y cy ny ry np) (hl0 : Cond.methodLink own index y ∈ wsL_law) (ho : xo w nm y.cls) (hnp : As.length = np) (hdd : d' < d) (hst : (rest.map fun v => v.category).sum ≤ 8) (hd : decode cc pc = .ok (.invokevirtual index, 3)) {st : List Value} (hs : As.reverse ++ .ref (w.2.2.1 nm) :: rest = st)
    (k : ∀ (r : Option Value) (M' : MM), φ r M' → XV κ (xP w M') (pc + 3) L (r.toList ++ rest)) : XV κ (xP w M) pc L st := by
  obtain ⟨p, l, e, R, s, m, args, below, meth, c, Q, A, nL, cells, slots⟩ := κ
  intro H locs ls hI hS hl
  subst hs
  obtain ⟨q1, q2, q3, q4, q5, q6⟩ := hy
  have hts := C.2.2.2.2.1
  refine x_after E (va_runV (bytes := cy) (maxL := ny) (ret := ry) (As := As) (rest := rest) (C := y.cls) (own := own) (index := index) (n := np) (Ts := wsL_law) ⟨C.1, C.2.1, C.2.2.1, C.2.2.2.1, hts⟩ (hM l) ?_ ⟨xPre_blind, x_recv ho E.1 hI, fun U hU hW => ⟨rfl, x_pre E hI hS hU hW⟩⟩ rfl hnp hl.1 rfl (lv_room hst) hd ⟨C.2.2.2.2.2.2.2.1, C.2.2.2.2.2.2.2.2.1⟩) hS hl k
  refine cwV np hts (fun q hq => ?_) rfl rfl rfl ⟨rfl, q5⟩ (x_cwR hdd C.2.2.2.2.2.1 C.2.2.2.2.2.2.1 q6)
  rcases List.mem_append.mp hq with h | h
  · simp only [List.mem_cons, List.not_mem_nil, or_false] at h
    rcases h with rfl | rfl | rfl | rfl
    · exact x_good hl0
    · exact x_good q1
    · exact x_good q2
    · exact x_good q3
  · exact x_goodW q4 q h
theorem x_callS (C : XC κ own cc n d) (E : XE κ w) {y : MethodName} {cy : ByteArray} {ny d' np index : Nat} {ry : Option FieldType} {φ : XF} (As rest : List Value) (hM : XMet w y cy ny ry d' As M φ) (hy : xSM y cy ny ry np) (hl0 : Cond.methodLink own index y ∈ wsL_law) (hnp : As.length = np) (hdd : d' < d) (hst : (rest.map fun v => v.category).sum ≤ 8) (hd : decode cc pc = .ok (.invokestatic index, 3)) {st : List Value} (hs : As.reverse ++ rest = st)
    (k : ∀ (r : Option Value) (M' : MM), φ r M' → XV κ (xP w M') (pc + 3) L (r.toList ++ rest)) : XV κ (xP w M) pc L st := by
  obtain ⟨p, l, e, R, s, m, args, below, meth, c, Q, A, nL, cells, slots⟩ := κ
  intro H locs ls hI hS hl
  subst hs
  obtain ⟨q1, q3, q4, q5, q6⟩ := hy
  have hts := C.2.2.2.2.1
  refine x_after E (va_runS (bytes := cy) (maxL := ny) (ret := ry) (As := As) (rest := rest) (own := own) (index := index) (n := np) (Ts := wsL_law) ⟨C.1, C.2.1, C.2.2.1, C.2.2.2.1, hts⟩ (hM l) ⟨?_, hts _ q1⟩ ⟨xPre_blind, fun U hU hW => ⟨rfl, x_pre E hI hS hU hW⟩⟩ rfl hnp hl.1 rfl (lv_room hst) hd ⟨C.2.2.2.2.2.2.2.1, C.2.2.2.2.2.2.2.2.1⟩) hS hl k
  exact callB_of np hts (x_goodW q4) rfl rfl rfl (hts _ q3) (hts _ hl0) q5 (x_cwR hdd C.2.2.2.2.2.1 C.2.2.2.2.2.2.1 q6)
/-- a private static method of a nest mate -/
theorem x_callSN (C : XC κ own cc n d) (E : XE κ w) {y : MethodName} {cy : ByteArray} {ny d' np index : Nat} {ry : Option FieldType} {φ : XF} {host : String} (As rest : List Value) (hM : XMet w y cy ny ry d' As M φ) (hy : xSM y cy ny ry np) (hl0 : Cond.methodLinkNest own index y host ∈ lw_nest) (hnp : As.length = np) (hdd : d' < d) (hst : (rest.map fun v => v.category).sum ≤ 8) (hd : decode cc pc = .ok (.invokestatic index, 3)) {st : List Value} (hs : As.reverse ++ rest = st)
    (k : ∀ (r : Option Value) (M' : MM), φ r M' → XV κ (xP w M') (pc + 3) L (r.toList ++ rest)) : XV κ (xP w M) pc L st := by
  obtain ⟨p, l, e, R, s, m, args, below, meth, c, Q, A, nL, cells, slots⟩ := κ
  intro H locs ls hI hS hl
  subst hs
  obtain ⟨q1, q3, q4, q5, q6⟩ := hy
  have hts := C.2.2.2.2.1
  refine x_after E (va_runSN (bytes := cy) (maxL := ny) (ret := ry) (As := As) (rest := rest) (own := own) (index := index) (n := np) (host := host) (Ts := wsL_law) ⟨C.1, C.2.1, C.2.2.1, C.2.2.2.1, hts⟩ (hM l) ⟨?_, hts _ q1, trivial⟩ ⟨xPre_blind, fun U hU hW => ⟨rfl, x_pre E hI hS hU hW⟩⟩ rfl hnp hl.1 rfl (lv_room hst) hd ⟨C.2.2.2.2.2.2.2.1, C.2.2.2.2.2.2.2.2.1⟩) hS hl k
  exact va_cnB np hts (x_goodW q4) rfl rfl rfl (E.2.2.2.2 _ hl0) (hts _ q3) q5 (x_cwR hdd C.2.2.2.2.2.1 C.2.2.2.2.2.2.1 q6)
/-- an inherited or overriding method: the reference names xm, the receiver's class CN selects y -/
theorem x_callU (C : XC κ own cc n d) (E : XE κ w) {xm y : MethodName} {CN owner : String} {cy : ByteArray} {ny d' np index nm : Nat} {ry : Option FieldType} {φ : XF} (As rest : List Value) (hM : XMet w y cy ny ry d' (.ref (w.2.2.1 nm) :: As) M φ) {b0 : ByteArray} {m0 : Nat} {r0 : Option FieldType}
    (hw : Cond.methodLink own index xm ∈ wsL_law ∧ Cond.sameMethod xm.cls owner xm.name xm.desc ∈ wsL_law ∧ Cond.instanceMethod ⟨owner, xm.name, xm.desc⟩ ∈ wsL_law ∧ Cond.code ⟨owner, xm.name, xm.desc⟩ b0 m0 r0 ∈ wsL_law ∧ Cond.selects CN xm y ∈ wsL_law ∧ Cond.instanceMethod y ∈ wsL_law ∧ Cond.initialized y.cls ∈ wsL_law ∧ Cond.code y cy ny ry ∈ wsL_law) (ho : xo w nm CN)
    (hq : owner ≠ "java/lang/invoke/MethodHandle" ∧ owner ≠ "java/lang/invoke/VarHandle" ∧ (parseMethodDescriptor xm.desc).map (fun d => d.parameters.length) = some np) (hny : ny ≤ 21) (hnp : As.length = np) (hdd : d' < d) (hst : (rest.map fun v => v.category).sum ≤ 8) (hd : decode cc pc = .ok (.invokevirtual index, 3)) {st : List Value} (hs : As.reverse ++ .ref (w.2.2.1 nm) :: rest = st)
    (k : ∀ (r : Option Value) (M' : MM), φ r M' → XV κ (xP w M') (pc + 3) L (r.toList ++ rest)) : XV κ (xP w M) pc L st := by
  obtain ⟨p, l, e, R, s, m, args, below, meth, c, Q, A, nL, cells, slots⟩ := κ
  intro H locs ls hI hS hl
  subst hs
  obtain ⟨w1, w2, w3, w4, w5, w6, w7, w8⟩ := hw
  have hts := C.2.2.2.2.1
  refine x_after E (va_runU (bytes := cy) (maxL := ny) (ret := ry) (As := As) (rest := rest) (C := CN) (owner := owner) (x := xm) (own := own) (index := index) (n := np) (Ts := wsL_law) ⟨C.1, C.2.1, C.2.2.1, C.2.2.2.1, hts⟩ (hM l) ?_ ⟨xPre_blind, x_recv ho E.1 hI, fun U hU hW => ⟨rfl, x_pre E hI hS hU hW⟩⟩ rfl hnp hl.1 rfl (lv_room hst) hd ⟨C.2.2.2.2.2.2.2.1, C.2.2.2.2.2.2.2.2.1⟩) hS hl k
  refine va_cwO np hts (fun q hq => ?_) rfl rfl rfl w4 hq (x_cwR hdd C.2.2.2.2.2.1 C.2.2.2.2.2.2.1 hny)
  rcases List.mem_append.mp hq with h | h
  · simp only [List.mem_cons, List.not_mem_nil, or_false] at h
    rcases h with rfl | rfl | rfl | rfl | rfl | rfl
    · exact x_good w1
    · exact x_good w2
    · exact x_good w3
    · exact x_good w5
    · exact x_good w6
    · exact x_good w7
  · exact x_goodW w8 q h
/-- super.y() -/
theorem x_callSU (C : XC κ own cc n d) (E : XE κ w) {y : MethodName} {CN : String} {cy : ByteArray} {ny d' np index nm : Nat} {ry : Option FieldType} {φ : XF} (As rest : List Value) (hM : XMet w y cy ny ry d' (.ref (w.2.2.1 nm) :: As) M φ)
    (hw : Cond.methodLink own index y ∈ wsL_law ∧ Cond.sameMethod y.cls y.cls y.name y.desc ∈ wsL_law ∧ Cond.superclass own y.cls ∈ wsL_law ∧ Cond.instanceMethod y ∈ wsL_law ∧ Cond.initialized y.cls ∈ wsL_law ∧ Cond.code y cy ny ry ∈ wsL_law) (ho : xo w nm CN)
    (hq : y.name ≠ "<init>" ∧ (parseMethodDescriptor y.desc).map (fun d => d.parameters.length) = some np) (hny : ny ≤ 21) (hnp : As.length = np) (hdd : d' < d) (hst : (rest.map fun v => v.category).sum ≤ 8) (hd : decode cc pc = .ok (.invokespecial index, 3)) {st : List Value} (hs : As.reverse ++ .ref (w.2.2.1 nm) :: rest = st)
    (k : ∀ (r : Option Value) (M' : MM), φ r M' → XV κ (xP w M') (pc + 3) L (r.toList ++ rest)) : XV κ (xP w M) pc L st := by
  obtain ⟨p, l, e, R, s, m, args, below, meth, c, Q, A, nL, cells, slots⟩ := κ
  intro H locs ls hI hS hl
  subst hs
  obtain ⟨w1, w2, w3, w4, w5, w6⟩ := hw
  have hts := C.2.2.2.2.1
  obtain ⟨ci, N, fs, T, hc1, hc2⟩ := ho.2 (M nm)
  have hat : ClassAt s CN (w.2.2.2.1.1 ci) := (E.1.1 ci _ hc2).2
  refine x_after E (va_runSU (bytes := cy) (maxL := ny) (ret := ry) (As := As) (rest := rest) (C := CN) (own := own) (index := index) (n := np) (Ts := wsL_law) hat ⟨C.1, C.2.1, C.2.2.1, C.2.2.2.1, hts⟩ (hM l) ?_ ⟨xPre_blind, x_recv ho E.1 hI, fun U hU hW => ⟨rfl, x_pre E hI hS hU hW⟩⟩ rfl hnp hl.1 rfl (lv_room hst) hd ⟨C.2.2.2.2.2.2.2.1, C.2.2.2.2.2.2.2.2.1⟩) hS hl k
  refine va_cwSU np hts (fun q hq => ?_) rfl rfl rfl hq (x_cwR hdd C.2.2.2.2.2.1 C.2.2.2.2.2.2.1 hny)
  rcases List.mem_append.mp hq with h | h
  · simp only [List.mem_cons, List.not_mem_nil, or_false] at h
    rcases h with rfl | rfl | rfl | rfl | rfl
    · exact x_good w1
    · exact x_good w2
    · exact x_good w3
    · exact x_good w4
    · exact x_good w5
  · exact x_goodW w6 q h
end XCALL

