/-! making, further: objects and their fields -/
def xYE (κ : XK) (D : va_G) (tys : List (ClassId × FieldType)) (z : Nat) : Prop := match κ with
  | (_, _, _, _, s, _, _, _, _, _, _, A, _, _, _) => va_K D vwCl tys s ∧ (∀ q, z ≤ q → A q)
theorem kA_E {κ : XK} {D : va_G} {tys : List (ClassId × FieldType)} {z a b : Nat} (h : xYE κ D tys z) : xYE (kA κ a b) D tys z := by
  obtain ⟨p, l, e, R, s, m, args, below, meth, c, Q, A, nL, cells, slots⟩ := κ
  exact h
theorem YP_set {D : va_G} {z k j : Nat} {f : Nat → va_E} {H H1 : Heap} {x : va_E} (h : YP D z k f H) (hj : j < k) (hz : H1.size = H.size) (ho : ∀ q, q ≠ z + j → H1[q]? = H[q]?) (hx : va_at D vwCl (z + j, x) H1) : YP D z k (fS f j x) H1 := by
  refine ⟨hz.trans h.1, fun i hi => ?_⟩
  unfold fS
  by_cases g : i = j
  · rw [if_pos g, g]; exact hx
  · rw [if_neg g]
    exact va_at.kept (h.2 i hi) (ho _ (by show z + i ≠ z + j; omega))
theorem y_new {κ : XK} {own : String} {cc : ByteArray} {n d pc : Nat} {L : List (Nat × Value)} {st : List Value} {D : va_G} {tys : List (ClassId × FieldType)} {z k : Nat} {f : Nat → va_E} (C : XC κ own cc n d) (E : xYE κ D tys z) {CN : String} {T : u_T} {N ci index : Nat} (hr : xRm κ 1 N) (hin : ∀ q ∈ u_ws CN T N, q ∈ wsL_law) (ty : Nat → FieldType) (hty : ∀ k, k < N → parseFieldDescriptor (T k).2.2.1 = some (ty k)) (hcl : vwCl[ci]? = some (CN, T, N)) (h1 : Cond.classLink own index CN ∈ wsL_law) (h2 : Cond.instantiable CN N ∈ wsL_law) (h3 : Cond.initialized CN ∈ wsL_law) {fs : List Value} (hfs : ∀ j, j < N → defaultValue (ty j) = vp_V fs j) (hd : decode cc pc = .ok (.new index, 3))
    (kk : XV (kA κ 1 N) (YP D z (k + 1) (fS f k (.inr (ci, fs)))) (pc + 3) L (.ref (z + k) :: st)) : XV κ (YP D z k f) pc L st := by
  obtain ⟨p, l, e, R, s, m, args, below, meth, c, Q, A, nL, cells, slots⟩ := κ
  intro H locs ls hI hS hl
  have hts := C.2.2.2.2.1
  have hKn := E.1.1 ci _ hcl
  refine W.newcK C.1 C.2.1 C.2.2.2.1 (hts _ h1) (hts _ h2) (hts _ h3) rfl hd hr.1 hr.2 hKn.2.1 rfl fun H1 kC hkC e1 z1 o1 => ?_
  rw [hI.1] at e1
  have hY := YP_push (x := .inr (ci, fs)) hI z1 o1 ⟨_, hcl, (u_born ty hts hin hKn hkC e1 hty).to hfs⟩
  have h := kk H1 locs ls hY ⟨Nat.le_trans hS.1 (by omega), fun x h1 h2 => (o1 x (Nat.lt_of_lt_of_le h1 hS.1)).trans (hS.2.1 x h1 h2), hS.2.2⟩ hl
  rw [hI.1]
  exact h
