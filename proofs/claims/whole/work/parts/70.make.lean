/-! WHAT IS MADE: the cells from z on, one behind the other; a cell's address is the heap's size at its making -/
def kA (κ : XK) (a b : Nat) : XK := match κ with
  | (p, l, e, R, s, m, args, below, meth, c, Q, A, nL, cells, slots) => (p, l, e, R, s, m, args, below, meth, c, Q, A, nL, cells + a, slots + b)
/-- there is room for so much more -/
def xRm (κ : XK) (a b : Nat) : Prop := match κ with
  | (_, _, _, R, _, _, _, _, _, _, _, _, _, cells, slots) => cells + a ≤ R.cells ∧ slots + b ≤ R.slots
theorem kA_C {κ : XK} {own : String} {cc : ByteArray} {n d a b : Nat} (C : XC κ own cc n d) (h : xRm κ a b) : XC (kA κ a b) own cc n d := by
  obtain ⟨p, l, e, R, s, m, args, below, meth, c, Q, A, nL, cells, slots⟩ := κ
  obtain ⟨c1, c2, c3, c4, c5, c6, c7, c8, c9, c10⟩ := C
  exact ⟨c1, c2, c3, c4, c5, c6, c7, h.1, h.2, c10⟩
theorem kA_R {κ : XK} {a b a' b' x y : Nat} (h : xRm κ x y) (h1 : a + a' ≤ x) (h2 : b + b' ≤ y) : xRm (kA κ a b) a' b' := by
  obtain ⟨p, l, e, R, s, m, args, below, meth, c, Q, A, nL, cells, slots⟩ := κ
  have g1 : cells + x ≤ R.cells := h.1
  have g2 : slots + y ≤ R.slots := h.2
  exact ⟨by show cells + a + a' ≤ R.cells; omega, by show slots + b + b' ≤ R.slots; omega⟩
def YP (D : va_G) (z k : Nat) (f : Nat → va_E) (H : Heap) : Prop := H.size = z + k ∧ ∀ j, j < k → va_at D vwCl (z + j, f j) H
def fS (f : Nat → va_E) (k : Nat) (x : va_E) : Nat → va_E := fun j => if j = k then x else f j
/-- the tables tell the class of such arrays -/
def xAc (κ : XK) (nm : String) (cA : ClassId) : Prop := match κ with
  | (_, _, _, _, s, _, _, _, _, _, _, _, _, _, _) => s.vm.findClass nm = some cA
theorem YP_push {D : va_G} {z k : Nat} {f : Nat → va_E} {H H1 : Heap} {x : va_E} (h : YP D z k f H) (hz : H1.size = H.size + 1) (ho : ∀ q, q < H.size → H1[q]? = H[q]?) (hx : va_at D vwCl (z + k, x) H1) : YP D z (k + 1) (fS f k x) H1 := by
  refine ⟨by rw [hz, h.1]; rfl, fun j hj => ?_⟩
  unfold fS
  by_cases g : j = k
  · rw [if_pos g, g]; exact hx
  · rw [if_neg g]
    exact va_at.kept (h.2 j (by omega)) (ho _ (by rw [h.1]; show z + j < z + k; omega))
theorem y_newa {κ : XK} {own : String} {cc : ByteArray} {n d pc : Nat} {L : List (Nat × Value)} {st : List Value} {D : va_G} {z k N : Nat} {f : Nat → va_E} {cI : ClassId} (C : XC κ own cc n d) (hr : xRm κ 1 N) (hc : xAc κ "[I" cI) (ha : Cond.arrayClass .int ∈ wsL_law) (hN : N ≤ 3072) (hd : decode cc pc = .ok (.newarray .int, 2)) (kk : XV (kA κ 1 N) (YP D z (k + 1) (fS f k (.inl (cI, N, .inl (fun _ => 0))))) (pc + 2) L (.ref (z + k) :: st)) : XV κ (YP D z k f) pc L (.int (nI N) :: st) := by
  obtain ⟨p, l, e, R, s, m, args, below, meth, c, Q, A, nL, cells, slots⟩ := κ
  intro H locs ls hI hS hl
  refine va_newaK (atype := .int) C.1 C.2.1 (C.2.2.2.2.1 _ ha) rfl hd rfl (fun h => by rw [i_lt, nI_toInt (by omega)] at h; exact absurd h (by show ¬ (N : Int) < 0; omega)) (nI_clamp (by omega)) (Nat.le_trans (Nat.mul_le_mul_right _ hN) (by decide)) hr.1 hr.2 rfl (fun H1 cA e1 z1 o1 hAr hNm => ?_)
  obtain rfl : cA = cI := Option.some.inj (hNm.symm.trans hc)
  rw [hI.1] at e1
  refine (show _ from ?_)
  have hY := YP_push (x := .inl (cA, N, .inl (fun _ => 0))) hI z1 o1 e1
  have h := kk H1 locs ls hY ⟨Nat.le_trans hS.1 (by omega), fun x h1 h2 => (o1 x (Nat.lt_of_lt_of_le h1 hS.1)).trans (hS.2.1 x h1 h2), hS.2.2⟩ hl
  rw [hI.1]
  exact h
