/-! making: rows of booleans, Object's own constructor, a reference laid into a row of references -/
theorem y_newz {κ : XK} {own : String} {cc : ByteArray} {n d pc : Nat} {L : List (Nat × Value)} {st : List Value} {D : va_G} {z k N : Nat} {f : Nat → va_E} {cI : ClassId} (C : XC κ own cc n d) (hr : xRm κ 1 N) (hc : xAc κ "[Z" cI) (ha : Cond.arrayClass .boolean ∈ wsL_law) (hN : N ≤ 3072) (hd : decode cc pc = .ok (.newarray .boolean, 2)) (kk : XV (kA κ 1 N) (YP D z (k + 1) (fS f k (.inl (cI, N, .inl (fun _ => 0))))) (pc + 2) L (.ref (z + k) :: st)) : XV κ (YP D z k f) pc L (.int (nI N) :: st) := by
  obtain ⟨p, l, e, R, s, m, args, below, meth, c, Q, A, nL, cells, slots⟩ := κ
  intro H locs ls hI hS hl
  refine va_newaK (atype := .boolean) C.1 C.2.1 (C.2.2.2.2.1 _ ha) rfl hd rfl (fun h => by rw [i_lt, nI_toInt (by omega)] at h; exact absurd h (by show ¬ (N : Int) < 0; omega)) (nI_clamp (by omega)) (Nat.le_trans (Nat.mul_le_mul_right _ hN) (by decide)) hr.1 hr.2 rfl (fun H1 cA e1 z1 o1 hAr hNm => ?_)
  obtain rfl : cA = cI := Option.some.inj (hNm.symm.trans hc)
  rw [hI.1] at e1
  have hY := YP_push (x := .inl (cA, N, .inl (fun _ => 0))) hI z1 o1 e1
  have h := kk H1 locs ls hY ⟨Nat.le_trans hS.1 (by omega), fun x h1 h2 => (o1 x (Nat.lt_of_lt_of_le h1 hS.1)).trans (hS.2.1 x h1 h2), hS.2.2⟩ hl
  rw [hI.1]
  exact h
theorem y_obj {κ : XK} {own : String} {cc : ByteArray} {n d pc index a : Nat} {I : Heap → Prop} {L : List (Nat × Value)} {st : List Value} (C : XC κ own cc n d) (hd1 : 1 ≤ d) (h1 : Cond.methodLink own index Lib.objectInit ∈ wsL_law) (h2 : Cond.instanceMethod Lib.objectInit ∈ wsL_law) (h3 : Cond.code Lib.objectInit ⟨#[0xb1]⟩ 1 none ∈ wsL_law) (hst : (st.map fun v => v.category).sum ≤ 8) (hd : decode cc pc = .ok (.invokespecial index, 3)) (kk : XV κ I (pc + 3) L st) : XV κ I pc L (.ref a :: st) := by
  obtain ⟨p, l, e, R, s, m, args, below, meth, c, Q, A, nL, cells, slots⟩ := κ
  intro H locs ls hI hS hl
  have hts := C.2.2.2.2.1
  refine W.objInit C.1 C.2.1 C.2.2.2.1 (hts _ h1) (hts _ h2) (hts _ h3) rfl (by rw [C.2.2.1]; exact hl.1) rfl hd (Nat.le_trans hd1 C.2.2.2.2.2.1) ?_ (kk H locs ls hI hS hl)
  have := C.2.2.2.2.2.2.1
  show 2 * 0 + (st.map fun v => v.category).sum + 12 ≤ R.locals
  omega
/-- a thing of class CN may stand in a row of EN -/
def xAs (κ : XK) (EN CN : String) : Prop := match κ with
  | (_, _, _, _, s, _, _, _, _, _, _, _, _, _, _) => ∀ comp c0 : ClassId, s.vm.findClass EN = some comp → s.vm.findClass CN = some c0 → s.vm.assignable c0 comp = true
theorem y_astq {κ : XK} {own : String} {cc : ByteArray} {n d pc : Nat} {L : List (Nat × Value)} {st : List Value} {D : va_G} {tys : List (ClassId × FieldType)} {z k j v N i t0 ci : Nat} {f : Nat → va_E} {cA : ClassId} {EN : String} {fq : Nat → Option Nat} {fs : List Value} {r : vw_C} (C : XC κ own cc n d) (E : xYE κ D tys z) (hj : j < k) (hc : f j = .inl (cA, N, .inr (.inr (.inr (.inr fq))))) (ht : tys[t0]? = some (cA, .object EN)) (hv : v < k) (hcv : f v = .inr (ci, fs)) (hcl : vwCl[ci]? = some r) (has : xAs κ EN r.1) (hi : i < N) (hN : N ≤ 3072) (hd : decode cc pc = .ok (.aastore, 1))
    (kk : XV κ (YP D z k (fS f j (.inl (cA, N, .inr (.inr (.inr (.inr (va_up fq i (some (z + v))))))))) ) (pc + 1) L st) : XV κ (YP D z k f) pc L (.ref (z + v) :: .int (nI i) :: .ref (z + j) :: st) := by
  obtain ⟨p, l, e, R, s, m, args, below, meth, c, Q, A, nL, cells, slots⟩ := κ
  intro H locs ls hI hS hl
  have hat := hI.2 v hv
  rw [hcv] at hat
  have hany : va_Any EN s H (z + v) := va_rAny (ws := [(z + v, .inr (ci, fs))]) (q0 := 0) E.1 (fun k q hk => by
    have hz : k < 1 := (List.getElem?_eq_some_iff.mp hk).1
    rw [show k = 0 by omega] at hk
    cases hk
    exact hat) rfl hcl has
  obtain ⟨cellV, g1, g3, ⟨kC, hkC⟩, hasg⟩ := hany
  obtain ⟨kA0, comp, k1, k2, k3, -⟩ := (E.1.2 t0 _ ht).2
  obtain ⟨kE, hkE, -⟩ := Vm.findClass_spec k3
  have hat2 := hI.2 j hj
  rw [hc] at hat2
  have hin := vp_in_nI hi (show N < 2 ^ 31 by omega)
  have hcl2 := nI_clamp (n := i) (by omega)
  refine W.aast C.1 C.2.1 hat2 (fun q h => by cases h) (fun h => by cases h) k1 k2 rfl hkE ⟨fun q => hin (Or.inl q), by show _ < (arrV _ _ _).slots.size; rw [arrV_size, hcl2]; exact hi⟩ g1 (fun q h => by rw [h] at g3; cases g3) hkC (hasg _ k3) rfl rfl hd fun H1 e1 z1 o1 => ?_
  refine kk H1 _ ls (YP_set hI hj z1 o1 ?_) (hS.put z1 o1 (E.2 _ (Nat.le_add_right _ _))) hl
  show H1[z + j]? = some (vp_cell _ _)
  rw [e1, vp_cell_q, vp_cell_q, arrV_store, hcl2]
  congr 2
  funext q
  by_cases hq : q = i
  · subst hq
    simp [updV, va_up, va_rf]
  · simp [updV, va_up, hq]
