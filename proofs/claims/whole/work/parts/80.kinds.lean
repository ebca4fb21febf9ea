set_option maxRecDepth 100000 in
theorem c_X3_init3 {D : va_G} {tys : List (ClassId × FieldType)} {z : Nat} {X : State → Heap → Prop} (x : Int32) {j k : Nat} {f : Nat → va_E} (hj : j < k) (hf : f j = .inr (3, [.int 0])) : YMet D tys z X yX3_init cX3_init 2 2 0 0 [.ref (z + j), .int x] k f k (fS f j (.inr (3, [.int x]))) := by
  refine y_met RX3 (by decide) rfl rfl (Nat.le_of_ble_eq_true rfl) (fun κ C R E N HX hr hle => ?_)
  refine x_L (L' := [(0, .ref (z + j)), (1, .int x)]) rfl ?_
  refine x_aload_n (pc := 0) C 0 dX3_init_0 rfl ?_
  refine y_obj (pc := 1) C (by decide) q4_14 q1_10 q1_11 (by decide) dX3_init_1 ?_
  refine x_aload_n (pc := 4) C 0 dX3_init_4 rfl ?_
  refine x_iload_n (pc := 5) C 1 dX3_init_5 rfl ?_
  refine y_putF (pc := 6) C E N (CN := RX3) (T := TX3) (ref := RX3) (ci := 3) (fs := [.int 0]) 0 tyX3 tyX3_ok nmX3 hj hf rfl inlX3 (by decide) q4_15 rfl rfl rfl (ty := .int) (by decide +kernel) rfl rfl (Nat.le_of_ble_eq_true rfl) dX3_init_6 ?_
  exact y_ret (pc := 9) C R hle dX3_init_9
set_option maxRecDepth 100000 in
theorem c_X3_init0 {D : va_G} {tys : List (ClassId × FieldType)} {z : Nat} {X : State → Heap → Prop} (x : Int32) {j k : Nat} {f : Nat → va_E} (hj : j < k) (hf : f j = .inr (0, [.int 0])) : YMet D tys z X yX3_init cX3_init 2 2 0 0 [.ref (z + j), .int x] k f k (fS f j (.inr (0, [.int x]))) := by
  refine y_met RX3 (by decide) rfl rfl (Nat.le_of_ble_eq_true rfl) (fun κ C R E N HX hr hle => ?_)
  refine x_L (L' := [(0, .ref (z + j)), (1, .int x)]) rfl ?_
  refine x_aload_n (pc := 0) C 0 dX3_init_0 rfl ?_
  refine y_obj (pc := 1) C (by decide) q4_14 q1_10 q1_11 (by decide) dX3_init_1 ?_
  refine x_aload_n (pc := 4) C 0 dX3_init_4 rfl ?_
  refine x_iload_n (pc := 5) C 1 dX3_init_5 rfl ?_
  refine y_putF (pc := 6) C E N (CN := RX0) (T := TX0) (ref := RX3) (ci := 0) (fs := [.int 0]) 0 tyX0 tyX0_ok nmX0 hj hf rfl inlX0 (by decide) q4_15 rfl rfl rfl (ty := .int) (by decide +kernel) rfl rfl (Nat.le_of_ble_eq_true rfl) dX3_init_6 ?_
  exact y_ret (pc := 9) C R hle dX3_init_9
set_option maxRecDepth 100000 in
theorem c_X3_init1 {D : va_G} {tys : List (ClassId × FieldType)} {z : Nat} {X : State → Heap → Prop} (x : Int32) {j k : Nat} {f : Nat → va_E} (hj : j < k) (hf : f j = .inr (1, [.int 0])) : YMet D tys z X yX3_init cX3_init 2 2 0 0 [.ref (z + j), .int x] k f k (fS f j (.inr (1, [.int x]))) := by
  refine y_met RX3 (by decide) rfl rfl (Nat.le_of_ble_eq_true rfl) (fun κ C R E N HX hr hle => ?_)
  refine x_L (L' := [(0, .ref (z + j)), (1, .int x)]) rfl ?_
  refine x_aload_n (pc := 0) C 0 dX3_init_0 rfl ?_
  refine y_obj (pc := 1) C (by decide) q4_14 q1_10 q1_11 (by decide) dX3_init_1 ?_
  refine x_aload_n (pc := 4) C 0 dX3_init_4 rfl ?_
  refine x_iload_n (pc := 5) C 1 dX3_init_5 rfl ?_
  refine y_putF (pc := 6) C E N (CN := RX1) (T := TX1) (ref := RX3) (ci := 1) (fs := [.int 0]) 0 tyX1 tyX1_ok nmX1 hj hf rfl inlX1 (by decide) q4_15 rfl rfl rfl (ty := .int) (by decide +kernel) rfl rfl (Nat.le_of_ble_eq_true rfl) dX3_init_6 ?_
  exact y_ret (pc := 9) C R hle dX3_init_9
set_option maxRecDepth 100000 in
theorem c_X3_init4 {D : va_G} {tys : List (ClassId × FieldType)} {z : Nat} {X : State → Heap → Prop} (x : Int32) {j k : Nat} {f : Nat → va_E} (hj : j < k) (hf : f j = .inr (4, [.int 0])) : YMet D tys z X yX3_init cX3_init 2 2 0 0 [.ref (z + j), .int x] k f k (fS f j (.inr (4, [.int x]))) := by
  refine y_met RX3 (by decide) rfl rfl (Nat.le_of_ble_eq_true rfl) (fun κ C R E N HX hr hle => ?_)
  refine x_L (L' := [(0, .ref (z + j)), (1, .int x)]) rfl ?_
  refine x_aload_n (pc := 0) C 0 dX3_init_0 rfl ?_
  refine y_obj (pc := 1) C (by decide) q4_14 q1_10 q1_11 (by decide) dX3_init_1 ?_
  refine x_aload_n (pc := 4) C 0 dX3_init_4 rfl ?_
  refine x_iload_n (pc := 5) C 1 dX3_init_5 rfl ?_
  refine y_putF (pc := 6) C E N (CN := RX4) (T := TX4) (ref := RX3) (ci := 4) (fs := [.int 0]) 0 tyX4 tyX4_ok nmX4 hj hf rfl inlX4 (by decide) q4_15 rfl rfl rfl (ty := .int) (by decide +kernel) rfl rfl (Nat.le_of_ble_eq_true rfl) dX3_init_6 ?_
  exact y_ret (pc := 9) C R hle dX3_init_9
set_option maxRecDepth 100000 in
theorem c_X3_init7 {D : va_G} {tys : List (ClassId × FieldType)} {z : Nat} {X : State → Heap → Prop} (x : Int32) {j k : Nat} {f : Nat → va_E} (hj : j < k) (hf : f j = .inr (7, [.int 0])) : YMet D tys z X yX3_init cX3_init 2 2 0 0 [.ref (z + j), .int x] k f k (fS f j (.inr (7, [.int x]))) := by
  refine y_met RX3 (by decide) rfl rfl (Nat.le_of_ble_eq_true rfl) (fun κ C R E N HX hr hle => ?_)
  refine x_L (L' := [(0, .ref (z + j)), (1, .int x)]) rfl ?_
  refine x_aload_n (pc := 0) C 0 dX3_init_0 rfl ?_
  refine y_obj (pc := 1) C (by decide) q4_14 q1_10 q1_11 (by decide) dX3_init_1 ?_
  refine x_aload_n (pc := 4) C 0 dX3_init_4 rfl ?_
  refine x_iload_n (pc := 5) C 1 dX3_init_5 rfl ?_
  refine y_putF (pc := 6) C E N (CN := RX7) (T := TX7) (ref := RX3) (ci := 7) (fs := [.int 0]) 0 tyX7 tyX7_ok nmX7 hj hf rfl inlX7 (by decide) q4_15 rfl rfl rfl (ty := .int) (by decide +kernel) rfl rfl (Nat.le_of_ble_eq_true rfl) dX3_init_6 ?_
  exact y_ret (pc := 9) C R hle dX3_init_9
set_option maxRecDepth 100000 in
theorem c_X3_init5 {D : va_G} {tys : List (ClassId × FieldType)} {z : Nat} {X : State → Heap → Prop} (x : Int32) {j k : Nat} {f : Nat → va_E} (hj : j < k) (hf : f j = .inr (5, [.int 0])) : YMet D tys z X yX3_init cX3_init 2 2 0 0 [.ref (z + j), .int x] k f k (fS f j (.inr (5, [.int x]))) := by
  refine y_met RX3 (by decide) rfl rfl (Nat.le_of_ble_eq_true rfl) (fun κ C R E N HX hr hle => ?_)
  refine x_L (L' := [(0, .ref (z + j)), (1, .int x)]) rfl ?_
  refine x_aload_n (pc := 0) C 0 dX3_init_0 rfl ?_
  refine y_obj (pc := 1) C (by decide) q4_14 q1_10 q1_11 (by decide) dX3_init_1 ?_
  refine x_aload_n (pc := 4) C 0 dX3_init_4 rfl ?_
  refine x_iload_n (pc := 5) C 1 dX3_init_5 rfl ?_
  refine y_putF (pc := 6) C E N (CN := RX5) (T := TX5) (ref := RX3) (ci := 5) (fs := [.int 0]) 0 tyX5 tyX5_ok nmX5 hj hf rfl inlX5 (by decide) q4_15 rfl rfl rfl (ty := .int) (by decide +kernel) rfl rfl (Nat.le_of_ble_eq_true rfl) dX3_init_6 ?_
  exact y_ret (pc := 9) C R hle dX3_init_9
