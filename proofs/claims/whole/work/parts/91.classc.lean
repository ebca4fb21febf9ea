set_option maxRecDepth 100000 in
set_option maxHeartbeats 1000000 in
theorem c_X11_init (z : Nat) (q : Nat → ClassId) (D : va_G) (X : State → Heap → Prop) (hq : yH X (wC (tC z q D X)).2.2.2.2.1 q) {v : Value} {q1 a1 q2 a2 : Nat} (hF : ∀ U H, X U H → txF v q1 a1 U H) (hW : ∀ U H, X U H → txW v q2 a2 U H) (hv : v = .null ∨ ∃ z, v = .ref z) {f : Nat → va_E} (hf : f 0 = .inr (11, [.null, .null, .null, .null, .null, .null, .null, .null, .int 0, .int 0])) : ZMet D (wC (tC z q D X)).2.2.2.2.1 z X yX11_init cX11_init 2 72 145 2326 [.ref (z + 0)] 1 f (fun H => ∃ M, RC sF M ∧ xP (wC (tC z q D X)) M H) := by
  refine z_met RX11 (by decide) rfl rfl (Nat.le_of_ble_eq_true rfl) (fun κ F => ?_)
  refine b11_a hq (by decide) hf κ F (fun κ1 F1 => ?_)
  refine b11_k hq (by decide) κ1 F1 (fun κ2 F2 => ?_)
  refine x_iconst (pc := 176) (v := nI 0) F2.1 dX11_init_176 (by decide) ?_
  refine x_istore_n (pc := 177) F2.1 dX11_init_177 (by decide) rfl ?_
  refine b11_t hq (by decide) (fun κ3 F3 => ?_) 6 0 κ2 rfl F2
  refine x_iconst (pc := 203) (v := nI 0) F3.1 dX11_init_203 (by decide) ?_
  refine x_istore_n (pc := 204) F3.1 dX11_init_204 (by decide) rfl ?_
  refine b11_s hq (by decide) (fun κ4 F4 => ?_) 4 0 κ3 rfl F3
  refine x_iconst (pc := 229) (v := nI 0) F4.1 dX11_init_229 (by decide) ?_
  refine x_istore_n (pc := 230) F4.1 dX11_init_230 (by decide) rfl ?_
  refine b11_b hq (by decide) (fun κ5 F5 => ?_) 3 0 κ4 rfl F4
  refine x_iconst (pc := 255) (v := nI 0) F5.1 dX11_init_255 (by decide) ?_
  refine x_istore_n (pc := 256) F5.1 dX11_init_256 (by decide) rfl ?_
  refine x_I (I' := xP (wC (tC z q D X)) mC) (fun H h => cells_ok z q D X h) ?_
  rw [mA_0]
  exact b11_e z q D X (by decide) hF hW hv κ5 F5 46 0 rfl
