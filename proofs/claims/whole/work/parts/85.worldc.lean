set_option maxRecDepth 100000 in
set_option maxHeartbeats 1000000 in
theorem c_X9_init {D : va_G} {tys : List (ClassId × FieldType)} {z : Nat} {X : State → Heap → Prop} {cI : ClassId} (hcI : ∀ U H, X U H → U.vm.findClass "[I" = some cI) {j k : Nat} {f : Nat → va_E} (hj : j < k) (hf : f j = .inr (9, [.null, .null, .int 0, .int 0, .int 0, .int 0, .int 0])) : YMet D tys z X yX9_init cX9_init 1 3 6 367 [.ref (z + j)] k f (k + 6) (fT cI z f j k) := by
  refine z_Y (z_met RX9 (by decide) rfl rfl (Nat.le_of_ble_eq_true rfl) (fun κ F => ?_))
  refine x_L (L' := [(0, .ref (z + j))]) rfl ?_
  refine x_aload_n (pc := 0) F.1 0 dX9_init_0 rfl ?_
  refine y_obj (pc := 1) F.1 (by decide) q3_10 q1_10 q1_11 (by decide) dX9_init_1 ?_
  refine x_aload_n (pc := 4) F.1 0 dX9_init_4 rfl ?_
  refine x_sipush (pc := 5) (v := nI 160) F.1 dX9_init_5 (by decide) ?_
  refine z_newa (pc := 8) F 5 207 1 160 hcI q3_11 (by decide) (by omega) (by omega) (by omega) (by omega) dX9_init_8 (fun κF1 F1 => ?_)
  refine y_putF (pc := 10) F1.1 F1.2.1 F1.2.2.1 (CN := RX9) (T := TX9) (ref := RX9) (ci := 9) (fs := [.null, .null, .int 0, .int 0, .int 0, .int 0, .int 0]) 0 tyX9 tyX9_ok nmX9 (by omega) (by rw [fS_n (by omega)]; exact hf) rfl inlX9 (by decide) q3_12 rfl rfl rfl (ty := .array .int) (by decide +kernel) rfl rfl (Nat.le_of_ble_eq_true rfl) dX9_init_10 ?_
  refine x_aload_n (pc := 13) F1.1 0 dX9_init_13 rfl ?_
  refine z_new (pc := 14) F1 (CN := RX6) 4 201 2 166 (by omega) (by omega) (by omega) (by omega) inlX6 tyX6 tyX6_ok (ci := 6) rfl q3_13 q3_1 q3_2 (fs := [.null, .null, .null, .null, .int 0, .int 0]) bX6 dX9_init_14 (fun κF2 F2 => ?_)
  refine x_dup (pc := 17) F2.1 dX9_init_17 rfl ?_
  refine z_callN (pc := 18) F2 0 0 6 367 [] [.ref (z + (k + 1)), .ref (z + j)] (c_X6_initU hcI (by omega) fS_s) mi_X6 (host := RX11) (List.mem_of_getElem? (i := 1) rfl) rfl (by decide) (by omega) (by omega) (by omega) (by omega) (Nat.le_of_ble_eq_true rfl) dX9_init_18 rfl (fun κF3 F3 => ?_)
  refine y_putF (pc := 21) F3.1 F3.2.1 F3.2.2.1 (CN := RX9) (T := TX9) (ref := RX9) (ci := 9) (fs := [.ref (z + k), .null, .int 0, .int 0, .int 0, .int 0, .int 0]) 1 tyX9 tyX9_ok nmX9 (by omega) (by unfold fU; (repeat' split) <;> first | omega | (unfold fS; (repeat' split) <;> first | rfl | omega)) rfl inlX9 (by decide) q3_14 rfl rfl rfl (ty := .object "InTheOldOne$Rule") (by decide +kernel) rfl rfl (Nat.le_of_ble_eq_true rfl) dX9_init_21 ?_
  refine y_I (g := fT cI z f j k) (fun x hx => by
    unfold fT
    by_cases h1 : x = j
    · rw [if_pos h1, h1, fS_s]; rfl
    rw [if_neg h1, fS_n h1]
    by_cases h2 : x = k
    · rw [if_pos h2]
      unfold fU
      rw [if_neg (by omega), if_neg (by omega), if_neg (by omega), if_neg (by omega), if_neg (by omega), fS_n (by omega), fS_n h1, h2, fS_s]
    rw [if_neg h2]
    unfold fU
    by_cases h3 : x = k + 1
    · rw [if_pos h3, if_pos h3]
    rw [if_neg h3, if_neg h3, fS_n h3, fS_n h1, fS_n h2]) ?_
  exact z_ret (pc := 24) F3 (fun _ h => h) (by omega) (by omega) dX9_init_24
set_option maxRecDepth 100000 in
set_option maxHeartbeats 1000000 in
theorem c_X10_loop {D : va_G} {tys : List (ClassId × FieldType)} {z : Nat} {X : State → Heap → Prop} {cI : ClassId} (hcI : ∀ U H, X U H → U.vm.findClass "[I" = some cI) {cD : ClassId} (hcD : ∀ U H, X U H → U.vm.findClass ("[" ++ (FieldType.object RX2).toString) = some cD) (hoD : ∀ U H, X U H → va_AO RX2 U) (haD : ∀ U H, X U H → ∀ comp c0 : ClassId, U.vm.findClass RX2 = some comp → U.vm.findClass RX2 = some c0 → U.vm.assignable c0 comp = true) {tD : Nat} (htD : tys[tD]? = some (cD, .object RX2)) {P : Heap → Prop} {j k : Nat} {f : Nat → va_E} (hj : j < k) (hP : P = YP D z (k + 25) (fW cI cD z f j k 6)) (m : Nat) : ∀ (i : Nat) (κ : XK), i + m = 6 → yF κ RX10 cX10_init 2 4 D tys z X P 25 144 (4 * m) (23 * m) (1 + 4 * i) (6 + 23 * i) → XV κ (YP D z (k + 1 + 4 * i) (fW cI cD z f j k i)) 15 [(1, .int (nI i)), (0, .ref (z + j))] [] := by
  induction m with
  | zero =>
    intro i κ hi F
    obtain rfl : i = 6 := by omega
    refine x_iload_n (pc := 15) F.1 0 dX10_init_15 rfl ?_
    refine x_bipush (pc := 16) (v := 6) F.1 dX10_init_16 rfl ?_
    refine x_icmp_ge_t (pc := 18) F.1 40 dX10_init_18 (by decide) (by decide) ?_
    exact z_ret (pc := 40) F (fun _ h => by rw [hP]; exact h) (by omega) (by omega) dX10_init_40
  | succ m ih =>
    intro i κ hi F
    refine x_iload_n (pc := 15) F.1 0 dX10_init_15 rfl ?_
    refine x_bipush (pc := 16) (v := 6) F.1 dX10_init_16 rfl ?_
    refine x_icmp_ge_f (pc := 18) F.1 40 dX10_init_18 (by decide) (by rw [i_le, nI_toInt (by omega)]; show ¬ (6 : Int) ≤ _; omega) ?_
    refine x_aload_n (pc := 21) F.1 1 dX10_init_21 rfl ?_
    refine z_get (pc := 22) F (CN := RX10) (T := TX10) (ci := 10) (fs := [.int 0, .int 0, .int 0, .ref (z + k)]) 3 (by omega) (if_pos rfl) rfl inlX10 (by decide) q4_3 rfl rfl dX10_init_22 ?_
    refine x_iload_n (pc := 25) F.1 0 dX10_init_25 rfl ?_
    refine z_new (pc := 26) F (CN := RX2) (4 * m + 3) (23 * m + 17) (2 + 4 * i) (12 + 23 * i) (by omega) (by omega) (by omega) (by omega) inlX2 tyX2 tyX2_ok (ci := 2) rfl q4_2 q3_5 q3_6 (fs := [.null, .int 0, .int 0, .int 0, .null, .null]) bX2 dX10_init_26 (fun κF1 F1 => ?_)
    refine x_dup (pc := 29) F1.1 dX10_init_29 rfl ?_
    refine z_callN (pc := 30) F1 (4 * m) (23 * m) (1 + 4 * (i + 1)) (6 + 23 * (i + 1)) [] [.ref (z + (k + 1 + 4 * i)), .int (nI i), .ref (z + k)] (c_X2_init hcI (by omega) fS_s) mi_X2 (host := RX11) (List.mem_of_getElem? (i := 2) rfl) rfl (by decide) (by omega) (by omega) (by omega) (by omega) (Nat.le_of_ble_eq_true rfl) dX10_init_30 rfl (fun κF2 F2 => ?_)
    refine y_astq (pc := 33) F2.1 F2.2.1 (cA := cD) (N := 6) (fq := qA z (fun q => k + 1 + 4 * q) i) (ci := 2) (fs := [.ref (z + (k + 1 + 4 * i + 1)), .int 0, .int 0, .int 0, .ref (z + (k + 1 + 4 * i + 1 + 1)), .ref (z + (k + 1 + 4 * i + 1 + 2))]) (by omega) (by unfold fD; rw [if_neg (by omega), if_neg (by omega), if_neg (by omega), if_neg (by omega), fS_n (by omega)]; unfold fW; rw [if_neg (by omega), if_neg (by omega), if_pos rfl]) htD (by omega) (if_pos rfl) rfl (yX_as F2.2.2.2.2.1 haD) (by omega) (by decide) dX10_init_33 ?_
    refine y_I (fW_step hj _) ?_
    refine x_iinc (pc := 34) (v := nI (i + 1)) F2.1 0 dX10_init_34 rfl (nI_1 _) (by decide) rfl ?_
    refine x_goto (pc := 37) F2.1 15 dX10_init_37 (by decide) ?_
    exact ih (i + 1) κF2 (by omega) F2
set_option maxRecDepth 100000 in
set_option maxHeartbeats 1000000 in
theorem c_X10_init {D : va_G} {tys : List (ClassId × FieldType)} {z : Nat} {X : State → Heap → Prop} {cI : ClassId} (hcI : ∀ U H, X U H → U.vm.findClass "[I" = some cI) {cD : ClassId} (hcD : ∀ U H, X U H → U.vm.findClass ("[" ++ (FieldType.object RX2).toString) = some cD) (hoD : ∀ U H, X U H → va_AO RX2 U) (haD : ∀ U H, X U H → ∀ comp c0 : ClassId, U.vm.findClass RX2 = some comp → U.vm.findClass RX2 = some c0 → U.vm.assignable c0 comp = true) {tD : Nat} (htD : tys[tD]? = some (cD, .object RX2)) {j k : Nat} {f : Nat → va_E} (hj : j < k) (hf : f j = .inr (10, [.int 0, .int 0, .int 0, .null])) : YMet D tys z X yX10_init cX10_init 2 4 25 144 [.ref (z + j)] k f (k + 25) (fW cI cD z f j k 6) := by
  refine z_Y (z_met RX10 (by decide) rfl rfl (Nat.le_of_ble_eq_true rfl) (fun κ F => ?_))
  refine x_L (L' := [(0, .ref (z + j))]) rfl ?_
  refine x_aload_n (pc := 0) F.1 0 dX10_init_0 rfl ?_
  refine y_obj (pc := 1) F.1 (by decide) q4_1 q1_10 q1_11 (by decide) dX10_init_1 ?_
  refine x_aload_n (pc := 4) F.1 0 dX10_init_4 rfl ?_
  refine x_bipush (pc := 5) (v := nI 6) F.1 dX10_init_5 (by decide) ?_
  refine z_anew (pc := 7) F 24 138 1 6 hcD hoD q4_2 (by decide) (by omega) (by omega) (by omega) (by omega) dX10_init_7 (fun κF1 F1 => ?_)
  refine y_putF (pc := 10) F1.1 F1.2.1 F1.2.2.1 (CN := RX10) (T := TX10) (ref := RX10) (ci := 10) (fs := [.int 0, .int 0, .int 0, .null]) 3 tyX10 tyX10_ok nmX10 (by omega) (by rw [fS_n (by omega)]; exact hf) rfl inlX10 (by decide) q4_3 rfl rfl rfl (ty := .array (.object "InTheOldOne$Disk")) (by decide +kernel) rfl rfl (Nat.le_of_ble_eq_true rfl) dX10_init_10 ?_
  refine y_I (g := fW cI cD z f j k 0) (fun x hx => by
    unfold fS fW
    by_cases h1 : x = j
    · rw [if_pos h1, if_pos h1]; rfl
    rw [if_neg h1, if_neg h1]
    by_cases h2 : x = k
    · rw [if_pos h2, if_neg (by omega), if_pos h2, qA_0 z (fun q => k + 1 + 4 * q)]
    rw [if_neg h2, if_pos (by omega)]) ?_
  refine x_iconst (pc := 13) (v := nI 0) F1.1 dX10_init_13 (by decide) ?_
  refine x_istore_n (pc := 14) F1.1 dX10_init_14 (by decide) rfl ?_
  exact c_X10_loop hcI hcD hoD haD htD hj rfl 6 0 κF1 rfl F1
