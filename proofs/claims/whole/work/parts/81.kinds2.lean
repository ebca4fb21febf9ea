theorem mi_X3 : xCM yX3_init cX3_init 2 1 := ⟨q4_12, q2_9, q4_13, rfl, by decide +kernel, by decide⟩
set_option maxRecDepth 100000 in
theorem c_X0_init_0 {D : va_G} {tys : List (ClassId × FieldType)} {z : Nat} {X : State → Heap → Prop} (x : Int32) {j k : Nat} {f : Nat → va_E} (hj : j < k) (hf : f j = .inr (0, [.int 0])) : YMet D tys z X yX0_init cX0_init 2 3 0 0 [.ref (z + j), .int x] k f k (fS f j (.inr (0, [.int x]))) := by
  refine y_met RX0 (by decide) rfl rfl (Nat.le_of_ble_eq_true rfl) (fun κ C R E N HX hr hle => ?_)
  refine x_L (L' := [(0, .ref (z + j)), (1, .int x)]) rfl ?_
  refine x_aload_n (pc := 0) C 0 dX0_init_0 rfl ?_
  refine x_iload_n (pc := 1) C 1 dX0_init_1 rfl ?_
  refine y_callI (pc := 2) C E HX [.int x] [] (c_X3_init0 x hj hf) mi_X3 q4_20 rfl (by decide) hr (by decide) dX0_init_2 rfl ?_
  exact y_ret (pc := 5) (kA_C C hr) (kA_yR R) (kA_L hle) dX0_init_5
set_option maxRecDepth 100000 in
theorem c_X1_init_1 {D : va_G} {tys : List (ClassId × FieldType)} {z : Nat} {X : State → Heap → Prop} (x : Int32) {j k : Nat} {f : Nat → va_E} (hj : j < k) (hf : f j = .inr (1, [.int 0])) : YMet D tys z X yX1_init cX1_init 2 3 0 0 [.ref (z + j), .int x] k f k (fS f j (.inr (1, [.int x]))) := by
  refine y_met RX1 (by decide) rfl rfl (Nat.le_of_ble_eq_true rfl) (fun κ C R E N HX hr hle => ?_)
  refine x_L (L' := [(0, .ref (z + j)), (1, .int x)]) rfl ?_
  refine x_aload_n (pc := 0) C 0 dX1_init_0 rfl ?_
  refine x_iload_n (pc := 1) C 1 dX1_init_1 rfl ?_
  refine y_callI (pc := 2) C E HX [.int x] [] (c_X3_init1 x hj hf) mi_X3 q5_0 rfl (by decide) hr (by decide) dX1_init_2 rfl ?_
  exact y_ret (pc := 5) (kA_C C hr) (kA_yR R) (kA_L hle) dX1_init_5
set_option maxRecDepth 100000 in
theorem c_X0_init_4 {D : va_G} {tys : List (ClassId × FieldType)} {z : Nat} {X : State → Heap → Prop} (x : Int32) {j k : Nat} {f : Nat → va_E} (hj : j < k) (hf : f j = .inr (4, [.int 0])) : YMet D tys z X yX0_init cX0_init 2 3 0 0 [.ref (z + j), .int x] k f k (fS f j (.inr (4, [.int x]))) := by
  refine y_met RX0 (by decide) rfl rfl (Nat.le_of_ble_eq_true rfl) (fun κ C R E N HX hr hle => ?_)
  refine x_L (L' := [(0, .ref (z + j)), (1, .int x)]) rfl ?_
  refine x_aload_n (pc := 0) C 0 dX0_init_0 rfl ?_
  refine x_iload_n (pc := 1) C 1 dX0_init_1 rfl ?_
  refine y_callI (pc := 2) C E HX [.int x] [] (c_X3_init4 x hj hf) mi_X3 q4_20 rfl (by decide) hr (by decide) dX0_init_2 rfl ?_
  exact y_ret (pc := 5) (kA_C C hr) (kA_yR R) (kA_L hle) dX0_init_5
theorem mi_X0 : xCM yX0_init cX0_init 2 1 := ⟨q4_18, q2_12, q4_19, rfl, by decide +kernel, by decide⟩
set_option maxRecDepth 100000 in
theorem c_X4_init_4 {D : va_G} {tys : List (ClassId × FieldType)} {z : Nat} {X : State → Heap → Prop} (x : Int32) {j k : Nat} {f : Nat → va_E} (hj : j < k) (hf : f j = .inr (4, [.int 0])) : YMet D tys z X yX4_init cX4_init 2 4 0 0 [.ref (z + j), .int x] k f k (fS f j (.inr (4, [.int x]))) := by
  refine y_met RX4 (by decide) rfl rfl (Nat.le_of_ble_eq_true rfl) (fun κ C R E N HX hr hle => ?_)
  refine x_L (L' := [(0, .ref (z + j)), (1, .int x)]) rfl ?_
  refine x_aload_n (pc := 0) C 0 dX4_init_0 rfl ?_
  refine x_iload_n (pc := 1) C 1 dX4_init_1 rfl ?_
  refine y_callI (pc := 2) C E HX [.int x] [] (c_X0_init_4 x hj hf) mi_X0 q5_4 rfl (by decide) hr (by decide) dX4_init_2 rfl ?_
  exact y_ret (pc := 5) (kA_C C hr) (kA_yR R) (kA_L hle) dX4_init_5
set_option maxRecDepth 100000 in
theorem c_X1_init_7 {D : va_G} {tys : List (ClassId × FieldType)} {z : Nat} {X : State → Heap → Prop} (x : Int32) {j k : Nat} {f : Nat → va_E} (hj : j < k) (hf : f j = .inr (7, [.int 0])) : YMet D tys z X yX1_init cX1_init 2 3 0 0 [.ref (z + j), .int x] k f k (fS f j (.inr (7, [.int x]))) := by
  refine y_met RX1 (by decide) rfl rfl (Nat.le_of_ble_eq_true rfl) (fun κ C R E N HX hr hle => ?_)
  refine x_L (L' := [(0, .ref (z + j)), (1, .int x)]) rfl ?_
  refine x_aload_n (pc := 0) C 0 dX1_init_0 rfl ?_
  refine x_iload_n (pc := 1) C 1 dX1_init_1 rfl ?_
  refine y_callI (pc := 2) C E HX [.int x] [] (c_X3_init7 x hj hf) mi_X3 q5_0 rfl (by decide) hr (by decide) dX1_init_2 rfl ?_
  exact y_ret (pc := 5) (kA_C C hr) (kA_yR R) (kA_L hle) dX1_init_5
theorem mi_X1 : xCM yX1_init cX1_init 2 1 := ⟨q4_22, q2_15, q4_23, rfl, by decide +kernel, by decide⟩
set_option maxRecDepth 100000 in
theorem c_X7_init_7 {D : va_G} {tys : List (ClassId × FieldType)} {z : Nat} {X : State → Heap → Prop} (x : Int32) {j k : Nat} {f : Nat → va_E} (hj : j < k) (hf : f j = .inr (7, [.int 0])) : YMet D tys z X yX7_init cX7_init 2 4 0 0 [.ref (z + j), .int x] k f k (fS f j (.inr (7, [.int x]))) := by
  refine y_met RX7 (by decide) rfl rfl (Nat.le_of_ble_eq_true rfl) (fun κ C R E N HX hr hle => ?_)
  refine x_L (L' := [(0, .ref (z + j)), (1, .int x)]) rfl ?_
  refine x_aload_n (pc := 0) C 0 dX7_init_0 rfl ?_
  refine x_iload_n (pc := 1) C 1 dX7_init_1 rfl ?_
  refine y_callI (pc := 2) C E HX [.int x] [] (c_X1_init_7 x hj hf) mi_X1 q5_8 rfl (by decide) hr (by decide) dX7_init_2 rfl ?_
  exact y_ret (pc := 5) (kA_C C hr) (kA_yR R) (kA_L hle) dX7_init_5
set_option maxRecDepth 100000 in
theorem c_X5_init_5 {D : va_G} {tys : List (ClassId × FieldType)} {z : Nat} {X : State → Heap → Prop} (x : Int32) {j k : Nat} {f : Nat → va_E} (hj : j < k) (hf : f j = .inr (5, [.int 0])) : YMet D tys z X yX5_init cX5_init 2 3 0 0 [.ref (z + j), .int x] k f k (fS f j (.inr (5, [.int x]))) := by
  refine y_met RX5 (by decide) rfl rfl (Nat.le_of_ble_eq_true rfl) (fun κ C R E N HX hr hle => ?_)
  refine x_L (L' := [(0, .ref (z + j)), (1, .int x)]) rfl ?_
  refine x_aload_n (pc := 0) C 0 dX5_init_0 rfl ?_
  refine x_iload_n (pc := 1) C 1 dX5_init_1 rfl ?_
  refine y_callI (pc := 2) C E HX [.int x] [] (c_X3_init5 x hj hf) mi_X3 q5_12 rfl (by decide) hr (by decide) dX5_init_2 rfl ?_
  exact y_ret (pc := 5) (kA_C C hr) (kA_yR R) (kA_L hle) dX5_init_5
