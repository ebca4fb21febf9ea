/-! a constructor's contract: from the cells made so far to those made behind it -/
def yQ (D : va_G) (z k' : Nat) (f' : Nat → va_E) : Array Value → State → Outcome → State → Prop := fun _ st oc t => oc = .returned none ∧ YP D z k' f' t.heap ∧ va_F (fun q => z ≤ q) st t
def yPre (D : va_G) (tys : List (ClassId × FieldType)) (z k : Nat) (f : Nat → va_E) (X : State → Heap → Prop) (U : State) : Prop := YP D z k f U.heap ∧ va_K D vwCl tys U ∧ (∀ (U' : State) (H : Heap), U.WarmedH U'.vm → U.heap.size ≤ H.size → (∀ q : Nat, q < U.heap.size → q < z → H[q]? = U.heap[q]?) → X U' H) ∧ (∀ q ∈ lw_nest, va_Nw q U)
def yRm (d nc ns : Nat) : Room := { frames := d, cells := nc, slots := ns, locals := 40 * d }
def YMet (D : va_G) (tys : List (ClassId × FieldType)) (z : Nat) (X : State → Heap → Prop) (y : MethodName) (cc : ByteArray) (nL d nc ns : Nat) (av : List Value) (k : Nat) (f : Nat → va_E) (k' : Nat) (f' : Nat → va_E) : Prop :=
  ∀ l : Launch, Met l y (Cond.code y cc nL none :: wsL_law) (yRm d nc ns) (va_Pc av (yPre D tys z k f X)) (yQ D z k' f') nc ns (fun q => z ≤ q)
def yR (κ : XK) (D : va_G) (z k' : Nat) (f' : Nat → va_E) (nc ns : Nat) : Prop := match κ with
  | (_, _, _, _, s, _, args, below, meth, _, Q, A, _, _, _) => meth.sig.returnType = none ∧ meth.locks = false ∧ Q = MQ below (yQ D z k' f') args s nc ns A ∧ A = (fun q => z ≤ q)
theorem kA_yR {κ : XK} {D : va_G} {z k' a b nc ns : Nat} {f' : Nat → va_E} (h : yR κ D z k' f' nc ns) : yR (kA κ a b) D z k' f' nc ns := by
  obtain ⟨p, l, e, R, s, m, args, below, meth, c, Q, A, nL, cells, slots⟩ := κ
  exact h
/-- no more was made than that -/
def yLe (κ : XK) (nc ns : Nat) : Prop := match κ with
  | (_, _, _, _, _, _, _, _, _, _, _, _, _, cells, slots) => cells ≤ nc ∧ slots ≤ ns
/-- what else a walk of a constructor knows -/
def yX (κ : XK) (z : Nat) (X : State → Heap → Prop) : Prop := match κ with
  | (_, _, _, _, s, _, _, _, _, _, _, A, _, _, _) => (∀ (U : State) (H : Heap) (locs : List Loc), s.WarmedH U.vm → va_S A s.heap H locs → X U H) ∧ (∀ q ∈ lw_nest, va_Nw q s)
theorem y_ret {κ : XK} {own : String} {cc : ByteArray} {n d pc : Nat} {L : List (Nat × Value)} {D : va_G} {z k' nc ns : Nat} {f' : Nat → va_E} (C : XC κ own cc n d) (hR : yR κ D z k' f' nc ns) (hle : yLe κ nc ns) (hd : decode cc pc = .ok (.return_, 1)) : XV κ (YP D z k' f') pc L [] := by
  obtain ⟨p, l, e, R, s, m, args, below, meth, c, Q, A, nL, cells, slots⟩ := κ
  intro H locs ls hI hS hl
  obtain ⟨h1, h2, h3, h4⟩ := hR
  subst h3
  have hlocks : meth.locks = false := h2
  refine W.widen hle.1 hle.2 ?_
  exact W.vret C.1 C.2.1 h1 (fun t ht hW => ⟨rfl, by rw [ht]; exact hI, by rw [← h4]; exact hS.F ht⟩) hS.2.2 hd
theorem y_met {D : va_G} {tys : List (ClassId × FieldType)} {z : Nat} {X : State → Heap → Prop} {y : MethodName} {cc : ByteArray} {nL d nc ns : Nat} {av : List Value} {k k' : Nat} {f f' : Nat → va_E} (own : String) (hy : plainName y.cls = true) (hown : y.cls = own) (hini : y.name = "<init>") (hav : (lg_sl av).length ≤ nL)
    (body : ∀ κ : XK, XC κ own cc nL d → yR κ D z k' f' nc ns → xYE κ D tys z → xIni κ → yX κ z X → xRm κ nc ns → yLe κ 0 0 → XV κ (YP D z k f) 0 (lv_args 0 av) []) : YMet D tys z X y cc nL d nc ns av k f k' f' := by
  intro l
  refine Met.ofW (cc := cc) (maxL := nL) (ret := none) hy rfl ?_
  intro p e s m args below meth c s₁ B hml hv
  obtain ⟨rfl, hP, hK, hX, hN⟩ := hv
  have hts := atoms_spec (ws := Cond.code y cc nL none :: wsL_law) B.pre
  have hown2 : s.vm.findClass own = some m.cls := hown ▸ findClass_of_methodNamed B.named
  have hin : meth.name = "<init>" := ((name_of_methodNamed B.named B.method).1).trans hini
  have hb := body (p, l, e, yRm d nc ns, s, m, av.toArray, below, meth, c, MQ below (yQ D z k' f') av.toArray s nc ns (fun q => z ≤ q), (fun q => z ≤ q), nL, 0, 0)
    ⟨B.exec, B.bytes, hml, hown2, fun q h => hts q (List.mem_cons_of_mem _ h), Nat.le_refl _, Nat.le_refl _, Nat.zero_le _, Nat.zero_le _, rfl⟩ ⟨B.returns, B.notSynchronized, rfl, rfl⟩ ⟨hK, fun _ h => h⟩ hin ⟨fun U H locs hvm hS => hX U H hvm hS.1 (fun q h1 h2 => hS.2.1 q h1 (by show ¬ z ≤ q; omega)), hN⟩ ⟨by show 0 + nc ≤ nc; omega, by show 0 + ns ≤ ns; omega⟩ ⟨Nat.le_refl _, Nat.le_refl _⟩
  have hl := lv_entry av (n := nL) hav
  rw [lg_entry_eq]
  exact hb s.heap [] _ hP va_S.rf hl
