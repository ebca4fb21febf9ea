theorem xRm_le {κ : XK} {a b x y : Nat} (h : xRm κ x y) (h1 : a ≤ x) (h2 : b ≤ y) : xRm κ a b := by
  obtain ⟨p, l, e, R, s, m, args, below, meth, c, Q, A, nL, cells, slots⟩ := κ
  have g1 : cells + x ≤ R.cells := h.1
  have g2 : slots + y ≤ R.slots := h.2
  exact ⟨by show cells + a ≤ R.cells; omega, by show slots + b ≤ R.slots; omega⟩
theorem kA_L {κ : XK} {a b x y : Nat} (h : yLe κ x y) : yLe (kA κ a b) (x + a) (y + b) := by
  obtain ⟨p, l, e, R, s, m, args, below, meth, c, Q, A, nL, cells, slots⟩ := κ
  have g1 : cells ≤ x := h.1
  have g2 : slots ≤ y := h.2
  exact ⟨by show cells + a ≤ x + a; omega, by show slots + b ≤ y + b; omega⟩
theorem kA_X {κ : XK} {z a b : Nat} {X : State → Heap → Prop} (h : yX κ z X) : yX (kA κ a b) z X := by
  obtain ⟨p, l, e, R, s, m, args, below, meth, c, Q, A, nL, cells, slots⟩ := κ
  exact h
set_option maxRecDepth 100000 in
set_option maxHeartbeats 1000000 in
theorem c_X6_init {D : va_G} {tys : List (ClassId × FieldType)} {z : Nat} {X : State → Heap → Prop} {cI : ClassId} (hc : ∀ U H, X U H → U.vm.findClass "[I" = some cI) {j k : Nat} {f : Nat → va_E} (hj : j < k) (hf : f j = .inr (6, [.null, .null, .null, .null, .int 0, .int 0])) : YMet D tys z X yX6_init cX6_init 1 2 4 201 [.ref (z + j)] k f (k + 4) (fS (fS (fS (fS (fS (fS (fS (fS f (k) (.inl (cI, 160, .inl (fun _ => 0)))) j (.inr (6, [.ref (z + (k)), .null, .null, .null, .int 0, .int 0]))) (k + 1) (.inl (cI, 3, .inl (fun _ => 0)))) j (.inr (6, [.ref (z + (k)), .ref (z + (k + 1)), .null, .null, .int 0, .int 0]))) (k + 2) (.inl (cI, 6, .inl (fun _ => 0)))) j (.inr (6, [.ref (z + (k)), .ref (z + (k + 1)), .ref (z + (k + 2)), .null, .int 0, .int 0]))) (k + 3) (.inl (cI, 32, .inl (fun _ => 0)))) j (.inr (6, [.ref (z + (k)), .ref (z + (k + 1)), .ref (z + (k + 2)), .ref (z + (k + 3)), .int 0, .int 0]))) := by
  refine y_met RX6 (by decide) rfl rfl (Nat.le_of_ble_eq_true rfl) (fun κ C R E N HX hr hle => ?_)
  refine x_L (L' := [(0, .ref (z + j))]) rfl ?_
  refine x_aload_n (pc := 0) C 0 dX6_init_0 rfl ?_
  refine y_obj (pc := 1) C (by decide) q3_17 q1_10 q1_11 (by decide) dX6_init_1 ?_
  refine x_aload_n (pc := 4) C 0 dX6_init_4 rfl ?_
  refine x_sipush (pc := 5) (v := nI 160) C dX6_init_5 (by decide) ?_
  refine y_newa (pc := 8) C (xRm_le hr (by decide) (by decide)) (yX_ac HX hc) q3_11 (by decide) dX6_init_8 ?_
  have C1 := kA_C C (xRm_le (a := 1) (b := 160) hr (by decide) (by decide))
  have E1 := kA_E (a := 1) (b := 160) E
  have N1 := kA_I (a := 1) (b := 160) N
  have R1 := kA_yR (a := 1) (b := 160) R
  have X1 := kA_X (a := 1) (b := 160) HX
  have L1 := kA_L (a := 1) (b := 160) hle
  have H1 := kA_R (a := 1) (b := 160) (a' := 3) (b' := 41) hr (by decide) (by decide)
  refine y_putF (pc := 10) C1 E1 N1 (CN := RX6) (T := TX6) (ref := RX6) (ci := 6) (fs := [.null, .null, .null, .null, .int 0, .int 0]) 0 tyX6 tyX6_ok nmX6 (by omega) (by unfold fS; rw [if_neg (by omega)]; exact hf) rfl inlX6 (by decide) q3_18 rfl rfl rfl (ty := .array .int) (by decide +kernel) rfl rfl (Nat.le_of_ble_eq_true rfl) dX6_init_10 ?_
  refine x_aload_n (pc := 13) C1 0 dX6_init_13 rfl ?_
  refine x_iconst (pc := 14) (v := nI 3) C1 dX6_init_14 (by decide) ?_
  refine y_newa (pc := 15) C1 (xRm_le H1 (by decide) (by decide)) (yX_ac X1 hc) q3_11 (by decide) dX6_init_15 ?_
  have C2 := kA_C C1 (xRm_le (a := 1) (b := 3) H1 (by decide) (by decide))
  have E2 := kA_E (a := 1) (b := 3) E1
  have N2 := kA_I (a := 1) (b := 3) N1
  have R2 := kA_yR (a := 1) (b := 3) R1
  have X2 := kA_X (a := 1) (b := 3) X1
  have L2 := kA_L (a := 1) (b := 3) L1
  have H2 := kA_R (a := 1) (b := 3) (a' := 2) (b' := 38) H1 (by decide) (by decide)
  refine y_putF (pc := 17) C2 E2 N2 (CN := RX6) (T := TX6) (ref := RX6) (ci := 6) (fs := [.ref (z + (k)), .null, .null, .null, .int 0, .int 0]) 1 tyX6 tyX6_ok nmX6 (by omega) (by unfold fS; rw [if_neg (by omega)]; exact (if_pos rfl)) rfl inlX6 (by decide) q3_19 rfl rfl rfl (ty := .array .int) (by decide +kernel) rfl rfl (Nat.le_of_ble_eq_true rfl) dX6_init_17 ?_
  refine x_aload_n (pc := 20) C2 0 dX6_init_20 rfl ?_
  refine x_bipush (pc := 21) (v := nI 6) C2 dX6_init_21 (by decide) ?_
  refine y_newa (pc := 23) C2 (xRm_le H2 (by decide) (by decide)) (yX_ac X2 hc) q3_11 (by decide) dX6_init_23 ?_
  have C3 := kA_C C2 (xRm_le (a := 1) (b := 6) H2 (by decide) (by decide))
  have E3 := kA_E (a := 1) (b := 6) E2
  have N3 := kA_I (a := 1) (b := 6) N2
  have R3 := kA_yR (a := 1) (b := 6) R2
  have X3 := kA_X (a := 1) (b := 6) X2
  have L3 := kA_L (a := 1) (b := 6) L2
  have H3 := kA_R (a := 1) (b := 6) (a' := 1) (b' := 32) H2 (by decide) (by decide)
  refine y_putF (pc := 25) C3 E3 N3 (CN := RX6) (T := TX6) (ref := RX6) (ci := 6) (fs := [.ref (z + (k)), .ref (z + (k + 1)), .null, .null, .int 0, .int 0]) 2 tyX6 tyX6_ok nmX6 (by omega) (by unfold fS; rw [if_neg (by omega)]; exact (if_pos rfl)) rfl inlX6 (by decide) q3_20 rfl rfl rfl (ty := .array .int) (by decide +kernel) rfl rfl (Nat.le_of_ble_eq_true rfl) dX6_init_25 ?_
  refine x_aload_n (pc := 28) C3 0 dX6_init_28 rfl ?_
  refine x_bipush (pc := 29) (v := nI 32) C3 dX6_init_29 (by decide) ?_
  refine y_newa (pc := 31) C3 (xRm_le H3 (by decide) (by decide)) (yX_ac X3 hc) q3_11 (by decide) dX6_init_31 ?_
  have C4 := kA_C C3 (xRm_le (a := 1) (b := 32) H3 (by decide) (by decide))
  have E4 := kA_E (a := 1) (b := 32) E3
  have N4 := kA_I (a := 1) (b := 32) N3
  have R4 := kA_yR (a := 1) (b := 32) R3
  have X4 := kA_X (a := 1) (b := 32) X3
  have L4 := kA_L (a := 1) (b := 32) L3
  have H4 := kA_R (a := 1) (b := 32) (a' := 0) (b' := 0) H3 (by decide) (by decide)
  refine y_putF (pc := 33) C4 E4 N4 (CN := RX6) (T := TX6) (ref := RX6) (ci := 6) (fs := [.ref (z + (k)), .ref (z + (k + 1)), .ref (z + (k + 2)), .null, .int 0, .int 0]) 3 tyX6 tyX6_ok nmX6 (by omega) (by unfold fS; rw [if_neg (by omega)]; exact (if_pos rfl)) rfl inlX6 (by decide) q3_21 rfl rfl rfl (ty := .array .int) (by decide +kernel) rfl rfl (Nat.le_of_ble_eq_true rfl) dX6_init_33 ?_
  exact y_ret (pc := 36) C4 R4 L4 dX6_init_36
