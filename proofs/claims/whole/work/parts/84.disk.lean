theorem bX2 : ∀ j, j < 6 → defaultValue (tyX2 j) = vp_V [.null, .int 0, .int 0, .int 0, .null, .null] j := fun j hj => match j, hj with | 0, _ => rfl | 1, _ => rfl | 2, _ => rfl | 3, _ => rfl | 4, _ => rfl | 5, _ => rfl | k + 6, h => absurd h (by omega)
theorem bX3 : ∀ j, j < 1 → defaultValue (tyX3 j) = vp_V [.int 0] j := fun j hj => match j, hj with | 0, _ => rfl | k + 1, h => absurd h (by omega)
theorem bX0 : ∀ j, j < 1 → defaultValue (tyX0 j) = vp_V [.int 0] j := fun j hj => match j, hj with | 0, _ => rfl | k + 1, h => absurd h (by omega)
theorem bX1 : ∀ j, j < 1 → defaultValue (tyX1 j) = vp_V [.int 0] j := fun j hj => match j, hj with | 0, _ => rfl | k + 1, h => absurd h (by omega)
theorem bX4 : ∀ j, j < 1 → defaultValue (tyX4 j) = vp_V [.int 0] j := fun j hj => match j, hj with | 0, _ => rfl | k + 1, h => absurd h (by omega)
theorem bX7 : ∀ j, j < 1 → defaultValue (tyX7 j) = vp_V [.int 0] j := fun j hj => match j, hj with | 0, _ => rfl | k + 1, h => absurd h (by omega)
theorem bX5 : ∀ j, j < 1 → defaultValue (tyX5 j) = vp_V [.int 0] j := fun j hj => match j, hj with | 0, _ => rfl | k + 1, h => absurd h (by omega)
theorem bX6 : ∀ j, j < 6 → defaultValue (tyX6 j) = vp_V [.null, .null, .null, .null, .int 0, .int 0] j := fun j hj => match j, hj with | 0, _ => rfl | 1, _ => rfl | 2, _ => rfl | 3, _ => rfl | 4, _ => rfl | 5, _ => rfl | k + 6, h => absurd h (by omega)
theorem bX8 : ∀ j, j < 3 → defaultValue (tyX8 j) = vp_V [.null, .int 0, .int 0] j := fun j hj => match j, hj with | 0, _ => rfl | 1, _ => rfl | 2, _ => rfl | k + 3, h => absurd h (by omega)
theorem bX9 : ∀ j, j < 7 → defaultValue (tyX9 j) = vp_V [.null, .null, .int 0, .int 0, .int 0, .int 0, .int 0] j := fun j hj => match j, hj with | 0, _ => rfl | 1, _ => rfl | 2, _ => rfl | 3, _ => rfl | 4, _ => rfl | 5, _ => rfl | 6, _ => rfl | k + 7, h => absurd h (by omega)
theorem bX10 : ∀ j, j < 4 → defaultValue (tyX10 j) = vp_V [.int 0, .int 0, .int 0, .null] j := fun j hj => match j, hj with | 0, _ => rfl | 1, _ => rfl | 2, _ => rfl | 3, _ => rfl | k + 4, h => absurd h (by omega)
theorem bX11 : ∀ j, j < 10 → defaultValue (tyX11 j) = vp_V [.null, .null, .null, .null, .null, .null, .null, .null, .int 0, .int 0] j := fun j hj => match j, hj with | 0, _ => rfl | 1, _ => rfl | 2, _ => rfl | 3, _ => rfl | 4, _ => rfl | 5, _ => rfl | 6, _ => rfl | 7, _ => rfl | 8, _ => rfl | 9, _ => rfl | k + 10, h => absurd h (by omega)
theorem mi_X2 : xCM yX2_init cX2_init 1 0 := ⟨q4_4, q3_6, q4_5, rfl, by decide +kernel, by decide⟩
theorem mi_X6 : xCM yX6_init cX6_init 1 0 := ⟨q3_15, q3_2, q3_16, rfl, by decide +kernel, by decide⟩
theorem mi_X8 : xCM yX8_init cX8_init 1 0 := ⟨q5_13, q3_4, q5_14, rfl, by decide +kernel, by decide⟩
theorem mi_X9 : xCM yX9_init cX9_init 1 0 := ⟨q3_8, q1_20, q3_9, rfl, by decide +kernel, by decide⟩
theorem mi_X10 : xCM yX10_init cX10_init 2 0 := ⟨q3_23, q2_0, q4_0, rfl, by decide +kernel, by decide⟩
theorem mi_X4 : xCM yX4_init cX4_init 2 1 := ⟨q5_2, q2_18, q5_3, rfl, by decide +kernel, by decide⟩
theorem mi_X7 : xCM yX7_init cX7_init 2 1 := ⟨q5_6, q2_21, q5_7, rfl, by decide +kernel, by decide⟩
theorem mi_X5 : xCM yX5_init cX5_init 2 1 := ⟨q5_10, q3_0, q5_11, rfl, by decide +kernel, by decide⟩
theorem c_X6_initU {D : va_G} {tys : List (ClassId × FieldType)} {z : Nat} {X : State → Heap → Prop} {cI : ClassId} (hcI : ∀ U H, X U H → U.vm.findClass "[I" = some cI) {j k : Nat} {f : Nat → va_E} (hj : j < k) (hf : f j = .inr (6, [.null, .null, .null, .null, .int 0, .int 0])) : YMet D tys z X yX6_init cX6_init 1 2 4 201 [.ref (z + j)] k f (k + 4) (fU cI z f j k) := y_post (c_X6_init hcI hj hf) (fun x hx => by
  unfold fS fU
  (repeat' split) <;> first | rfl | omega)
theorem c_X8_initH {D : va_G} {tys : List (ClassId × FieldType)} {z : Nat} {X : State → Heap → Prop} {cI : ClassId} (hcI : ∀ U H, X U H → U.vm.findClass "[I" = some cI) {j k : Nat} {f : Nat → va_E} (hj : j < k) (hf : f j = .inr (8, [.null, .int 0, .int 0])) : YMet D tys z X yX8_init cX8_init 1 2 1 40 [.ref (z + j)] k f (k + 1) (fH cI z f j k) := y_post (c_X8_init hcI hj hf) (fun x hx => by
  unfold fS fH
  (repeat' split) <;> first | rfl | omega)
set_option maxRecDepth 100000 in
set_option maxHeartbeats 1000000 in
theorem c_X2_init {D : va_G} {tys : List (ClassId × FieldType)} {z : Nat} {X : State → Heap → Prop} {cI : ClassId} (hcI : ∀ U H, X U H → U.vm.findClass "[I" = some cI) {j k : Nat} {f : Nat → va_E} (hj : j < k) (hf : f j = .inr (2, [.null, .int 0, .int 0, .int 0, .null, .null])) : YMet D tys z X yX2_init cX2_init 1 3 3 17 [.ref (z + j)] k f (k + 3) (fD cI z f j k) := by
  refine z_Y (z_met RX2 (by decide) rfl rfl (Nat.le_of_ble_eq_true rfl) (fun κ F => ?_))
  refine x_L (L' := [(0, .ref (z + j))]) rfl ?_
  refine x_aload_n (pc := 0) F.1 0 dX2_init_0 rfl ?_
  refine y_obj (pc := 1) F.1 (by decide) q4_6 q1_10 q1_11 (by decide) dX2_init_1 ?_
  refine x_aload_n (pc := 4) F.1 0 dX2_init_4 rfl ?_
  refine z_new (pc := 5) F (CN := RX3) 2 16 1 1 (by omega) (by omega) (by omega) (by omega) inlX3 tyX3 tyX3_ok (ci := 3) rfl q4_7 q2_8 q2_9 (fs := [.int 0]) bX3 dX2_init_5 (fun κF1 F1 => ?_)
  refine x_dup (pc := 8) F1.1 dX2_init_8 rfl ?_
  refine x_iconst (pc := 9) (v := 0) F1.1 dX2_init_9 rfl ?_
  refine z_call (pc := 10) F1 2 16 1 1 [.int 0] [.ref (z + k), .ref (z + j)] (c_X3_init3 0 (by omega) fS_s) mi_X3 q4_11 rfl (by decide) (by omega) (by omega) (by omega) (by omega) (Nat.le_of_ble_eq_true rfl) dX2_init_10 rfl (fun κF2 F2 => ?_)
  refine y_put (pc := 13) F2.1 F2.2.1 (CN := RX2) (T := TX2) (ref := RX2) (ci := 2) (fs := [.null, .int 0, .int 0, .int 0, .null, .null]) 0 tyX2 tyX2_ok nmX2 (by omega) (by rw [fS_n (by omega), fS_n (by omega)]; exact hf) rfl inlX2 (by decide) q4_8 rfl rfl (ty := .object "InTheOldOne$DiskKind") (by decide +kernel) rfl rfl (Nat.le_of_ble_eq_true rfl) dX2_init_13 ?_
  refine x_aload_n (pc := 16) F2.1 0 dX2_init_16 rfl ?_
  refine x_bipush (pc := 17) (v := nI 8) F2.1 dX2_init_17 (by decide) ?_
  refine z_newa (pc := 19) F2 1 8 2 9 hcI q3_11 (by decide) (by omega) (by omega) (by omega) (by omega) dX2_init_19 (fun κF3 F3 => ?_)
  refine y_putF (pc := 21) F3.1 F3.2.1 F3.2.2.1 (CN := RX2) (T := TX2) (ref := RX2) (ci := 2) (fs := [.ref (z + k), .int 0, .int 0, .int 0, .null, .null]) 4 tyX2 tyX2_ok nmX2 (by omega) (by unfold fS; rw [if_neg (by omega)]; exact (if_pos rfl)) rfl inlX2 (by decide) q4_9 rfl rfl rfl (ty := .array .int) (by decide +kernel) rfl rfl (Nat.le_of_ble_eq_true rfl) dX2_init_21 ?_
  refine x_aload_n (pc := 24) F3.1 0 dX2_init_24 rfl ?_
  refine x_bipush (pc := 25) (v := nI 8) F3.1 dX2_init_25 (by decide) ?_
  refine z_newa (pc := 27) F3 0 0 3 17 hcI q3_11 (by decide) (by omega) (by omega) (by omega) (by omega) dX2_init_27 (fun κF4 F4 => ?_)
  refine y_putF (pc := 29) F4.1 F4.2.1 F4.2.2.1 (CN := RX2) (T := TX2) (ref := RX2) (ci := 2) (fs := [.ref (z + k), .int 0, .int 0, .int 0, .ref (z + (k + 1)), .null]) 5 tyX2 tyX2_ok nmX2 (by omega) (by unfold fS; rw [if_neg (by omega)]; exact (if_pos rfl)) rfl inlX2 (by decide) q4_10 rfl rfl rfl (ty := .array .int) (by decide +kernel) rfl rfl (Nat.le_of_ble_eq_true rfl) dX2_init_29 ?_
  refine y_I (g := fD cI z f j k) (fun x hx => by
  unfold fS fD
  (repeat' split) <;> first | rfl | omega) ?_
  exact z_ret (pc := 32) F4 (fun _ h => h) (by omega) (by omega) dX2_init_32
