section XINST
variable {κ : XK} {own : String} {cc : ByteArray} {n d : Nat} {w : XW} {M : MM} {pc : Nat} {L : List (Nat × Value)} {st : List Value}
theorem x_instN (C : XC κ own cc n d) (E : XE κ w) {nm index : Nat} {CN tg : String} (ho : xo w nm CN) (hlink : Cond.classLink own index tg ∈ wsL_law) (hc : ∀ (U : State) (H : Heap), xX w U H → va_Nc CN tg U) (hd : decode cc pc = .ok (.instanceof index, 3))
    (k : XV κ (xP w M) (pc + 3) L (.int 0 :: st)) : XV κ (xP w M) pc L (.ref (w.2.2.1 nm) :: st) := by
  obtain ⟨p, l, e, R, s, m, args, below, meth, c, Q, A, nL, cells, slots⟩ := κ
  intro H locs ls hI hS hl
  exact va_instNo C.1 C.2.1 C.2.2.2.1 (C.2.2.2.2.1 _ hlink) (hc s H (E.2.2.2.1 s H locs (Vm.Alike.refl _) hS)) (x_recv ho E.1 hI) hd (k H locs ls hI hS hl)
theorem x_instY (C : XC κ own cc n d) (E : XE κ w) {nm index : Nat} {CN tg : String} (ho : xo w nm CN) (hlink : Cond.classLink own index tg ∈ wsL_law) (hc : ∀ (U : State) (H : Heap), xX w U H → va_Nw (.castable CN tg) U) (hd : decode cc pc = .ok (.instanceof index, 3))
    (k : XV κ (xP w M) (pc + 3) L (.int 1 :: st)) : XV κ (xP w M) pc L (.ref (w.2.2.1 nm) :: st) := by
  obtain ⟨p, l, e, R, s, m, args, below, meth, c, Q, A, nL, cells, slots⟩ := κ
  intro H locs ls hI hS hl
  exact va_instY C.1 C.2.1 C.2.2.2.1 (C.2.2.2.2.1 _ hlink) (hc s H (E.2.2.2.1 s H locs (Vm.Alike.refl _) hS)) (x_recv ho E.1 hI) hd (k H locs ls hI hS hl)
end XINST
