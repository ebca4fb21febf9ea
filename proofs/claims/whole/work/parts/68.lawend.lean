theorem lw_hend {p : Program} {l : Launch} {e : Env} {s : State} {m : MethodId} {below : List Frame} {meth : Method} {c : Code} {b cells slots d : Nat} {I : Heap → Prop} {L : List (Nat × Value)} (C : XC (p, l, e, room_1, s, m, #[Value.ref b], below, meth, c, lw_Z below #[Value.ref b] s, (fun q => s.heap.size ≤ q), 4, cells, slots) RL cL_law 4 d) (hr : meth.sig.returnType = ret) (hlocks : meth.locks = false) : XV (p, l, e, room_1, s, m, #[Value.ref b], below, meth, c, lw_Z below #[Value.ref b] s, (fun q => s.heap.size ≤ q), 4, cells, slots) I 1199 L [] := by
  refine x_iconst (pc := 1199) (v := 1) C dL_law_1199 rfl ?_
  intro H locs ls hI hS hl
  exact W.widen C.2.2.2.2.2.2.2.1 C.2.2.2.2.2.2.2.2.1 (va_forget (fun q hq => hS.2.2 q hq) (lw_ret C.1 C.2.1 hr hlocks dL_law_1200))
