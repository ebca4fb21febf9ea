/-! making: a row of references -/
def xAO (κ : XK) (CN : String) : Prop := match κ with
  | (_, _, _, _, s, _, _, _, _, _, _, _, _, _, _) => va_AO CN s
theorem y_anew {κ : XK} {own : String} {cc : ByteArray} {n d pc : Nat} {L : List (Nat × Value)} {st : List Value} {D : va_G} {z k N index : Nat} {f : Nat → va_E} {CN : String} {cI : ClassId} (C : XC κ own cc n d) (hr : xRm κ 1 N) (hc : xAc κ ("[" ++ (FieldType.object CN).toString) cI) (h1 : Cond.classLink own index CN ∈ wsL_law) (hover : xAO κ CN) (hN : N ≤ 3072) (hd : decode cc pc = .ok (.anewarray index, 3)) (kk : XV (kA κ 1 N) (YP D z (k + 1) (fS f k (.inl (cI, N, .inr (.inr (.inr (.inr (fun _ => none)))))))) (pc + 3) L (.ref (z + k) :: st)) : XV κ (YP D z k f) pc L (.int (nI N) :: st) := by
  obtain ⟨p, l, e, R, s, m, args, below, meth, c, Q, A, nL, cells, slots⟩ := κ
  intro H locs ls hI hS hl
  have e0 : (nI N).toNatClampNeg = N := nI_clamp (by omega)
  refine W.anew C.1 C.2.1 C.2.2.2.1 (C.2.2.2.2.1 _ h1) (va_AO.use hover) rfl hd rfl (fun h => by rw [i_lt, nI_toInt (by omega)] at h; exact absurd h (by show ¬ (N : Int) < 0; omega)) (by rw [e0]; omega) hr.1 (by rw [e0]; exact hr.2) fun cA kA0 comp f1 f2 f3 f4 => ?_
  obtain rfl : cA = cI := Option.some.inj (f1.symm.trans hc)
  rw [e0]
  generalize hH1 : H.push ({ cls := cA, slots := Array.replicate N .null, vm := .none } : Cell) = H1
  have z1 : H1.size = H.size + 1 := by rw [← hH1, Array.size_push]
  have e1 : H1[H.size]? = some (arrV cA N (fun _ => .null)) := by rw [← hH1, Array.getElem?_push_size, ← arrV_new]
  have o1 : ∀ q : Nat, q < H.size → H1[q]? = H[q]? := fun q hq => by rw [← hH1, Array.getElem?_push, if_neg (Nat.ne_of_lt hq)]
  rw [hI.1] at e1
  have hY := YP_push (x := .inl (cA, N, .inr (.inr (.inr (.inr (fun _ => none)))))) hI z1 o1 (by show H1[z + k]? = some (vp_cell _ _); rw [vp_cell_q]; exact e1)
  have h := kk H1 locs ls hY ⟨Nat.le_trans hS.1 (by omega), fun x h1 h2 => (o1 x (Nat.lt_of_lt_of_le h1 hS.1)).trans (hS.2.1 x h1 h2), hS.2.2⟩ hl
  rw [hI.1]
  exact h
