theorem yX_ac {κ : XK} {z : Nat} {X : State → Heap → Prop} {nm : String} {cI : ClassId} (h : yX κ z X) (hc : ∀ U H, X U H → U.vm.findClass nm = some cI) : xAc κ nm cI := by
  obtain ⟨p, l, e, R, s, m, args, below, meth, c, Q, A, nL, cells, slots⟩ := κ
  exact hc _ _ (h.1 s s.heap [] (State.WarmedH.refl s) va_S.rf)
set_option maxRecDepth 100000 in
set_option maxHeartbeats 1000000 in
theorem c_X8_init {D : va_G} {tys : List (ClassId × FieldType)} {z : Nat} {X : State → Heap → Prop} {cI : ClassId} (hc : ∀ U H, X U H → U.vm.findClass "[I" = some cI) {j k : Nat} {f : Nat → va_E} (hj : j < k) (hf : f j = .inr (8, [.null, .int 0, .int 0])) : YMet D tys z X yX8_init cX8_init 1 2 1 40 [.ref (z + j)] k f (k + 1) (fS (fS (fS f k (.inl (cI, 40, .inl (fun _ => 0)))) j (.inr (8, [.ref (z + k), .int 0, .int 0]))) j (.inr (8, [.ref (z + k), .int (-1), .int 0]))) := by
  refine y_met RX8 (by decide) rfl rfl (Nat.le_of_ble_eq_true rfl) (fun κ C R E N HX hr hle => ?_)
  refine x_L (L' := [(0, .ref (z + j))]) rfl ?_
  refine x_aload_n (pc := 0) C 0 dX8_init_0 rfl ?_
  refine y_obj (pc := 1) C (by decide) q5_15 q1_10 q1_11 (by decide) dX8_init_1 ?_
  refine x_aload_n (pc := 4) C 0 dX8_init_4 rfl ?_
  refine x_bipush (pc := 5) (v := nI 40) C dX8_init_5 (by decide) ?_
  refine y_newa (pc := 7) C hr (yX_ac HX hc) q3_11 (by decide) dX8_init_7 ?_
  refine y_putF (pc := 9) (kA_C C hr) (kA_E E) (kA_I N) (CN := RX8) (T := TX8) (ref := RX8) (ci := 8) (fs := [.null, .int 0, .int 0]) 0 tyX8 tyX8_ok nmX8 (by omega) (by unfold fS; rw [if_neg (by omega)]; exact hf) rfl inlX8 (by decide) q5_16 rfl rfl rfl (ty := .array .int) (by decide +kernel) rfl rfl (Nat.le_of_ble_eq_true rfl) dX8_init_9 ?_
  refine x_aload_n (pc := 12) (kA_C C hr) 0 dX8_init_12 rfl ?_
  refine x_iconst (pc := 13) (v := -1) (kA_C C hr) dX8_init_13 rfl ?_
  refine y_put (pc := 14) (kA_C C hr) (kA_E E) (CN := RX8) (T := TX8) (ref := RX8) (ci := 8) (fs := [.ref (z + k), .int 0, .int 0]) 1 tyX8 tyX8_ok nmX8 (by omega) (by unfold fS; rw [if_pos rfl]; rfl) rfl inlX8 (by decide) q5_17 rfl rfl (ty := .int) (by decide +kernel) rfl rfl (Nat.le_of_ble_eq_true rfl) dX8_init_14 ?_
  exact y_ret (pc := 17) (kA_C C hr) (kA_yR R) (by obtain ⟨p, l, e, R', s, m, args, below, meth, c, Q, A, nL, cells, slots⟩ := κ; exact ⟨by have := hle.1; show cells + 1 ≤ 1; omega, by have := hle.2; show slots + 40 ≤ 40; omega⟩) dX8_init_17
