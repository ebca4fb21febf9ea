theorem bX12 : ∀ j, j < 40 → defaultValue (tyX12 j) = vp_V [.int 0, .null, .null, .int 0, .int 0, .null, .int 0, .int 0, .null, .null, .null, .null, .int 0, .int 0, .int 0, .int 0, .int 0, .int 0, .int 0, .int 0, .int 0, .int 0, .int 0, .int 0, .long 0, .int 0, .int 0, .int 0, .int 0, .null, .null, .null, .null, .int 0, .int 0, .int 0, .null, .null, .null, .null] j := fun j hj => match j, hj with | 0, _ => rfl | 1, _ => rfl | 2, _ => rfl | 3, _ => rfl | 4, _ => rfl | 5, _ => rfl | 6, _ => rfl | 7, _ => rfl | 8, _ => rfl | 9, _ => rfl | 10, _ => rfl | 11, _ => rfl | 12, _ => rfl | 13, _ => rfl | 14, _ => rfl | 15, _ => rfl | 16, _ => rfl | 17, _ => rfl | 18, _ => rfl | 19, _ => rfl | 20, _ => rfl | 21, _ => rfl | 22, _ => rfl | 23, _ => rfl | 24, _ => rfl | 25, _ => rfl | 26, _ => rfl | 27, _ => rfl | 28, _ => rfl | 29, _ => rfl | 30, _ => rfl | 31, _ => rfl | 32, _ => rfl | 33, _ => rfl | 34, _ => rfl | 35, _ => rfl | 36, _ => rfl | 37, _ => rfl | 38, _ => rfl | 39, _ => rfl | k + 40, h => absurd h (by omega)
/-! the reference's cells: place n is its number -/
def tR (z : Nat) (q : Nat → ClassId) (D : va_G) (X : State → Heap → Prop) : CT := (fun n => z + n, q, D, X)
def gR (z : Nat) (q : Nat → ClassId) (fs : List Value) : Nat → va_E := fun x => if x = 0 then .inr (12, fs) else if x = 12 then .inl (q 1, 4, .inl (fun _ => 0)) else .inl (q 0, (if x = 1 then 960 else if x = 2 then 6 else if x = 3 then 160 else if x = 4 then 6 else if x = 5 then 12 else if x = 6 then 48 else if x = 7 then 48 else if x = 8 then 480 else if x = 9 then 12 else if x = 10 then 48 else if x = 11 then 48 else if x = 13 then 4 else if x = 14 then 4 else 160), .inl (fun _ => 0))
theorem gR_0 {z : Nat} {q : Nat → ClassId} {fs fs' : List Value} {x : Nat} : fS (gR z q fs) 0 (.inr (12, fs')) x = gR z q fs' x := by
  by_cases h : x = 0
  · rw [h, fS_s]; rfl
  · rw [fS_n h]; unfold gR; rw [if_neg h, if_neg h]
def mR (n k : Nat) : Int32 := if n = 0 ∧ k = 33 then -1 else 0
def fsR (z : Nat) : List Value := [.int 0, .ref (z + 1), .ref (z + 2), .int 0, .int 0, .ref (z + 3), .int 0, .int 0, .ref (z + 4), .ref (z + 5), .ref (z + 6), .ref (z + 7), .int 0, .int 0, .int 0, .int 0, .int 0, .int 0, .int 0, .int 0, .int 0, .int 0, .int 0, .int 0, .long 0, .int 0, .int 0, .int 0, .int 0, .ref (z + 8), .ref (z + 9), .ref (z + 10), .ref (z + 11), .int (-1), .int 0, .int 0, .ref (z + 12), .ref (z + 13), .ref (z + 14), .ref (z + 15)]
set_option maxRecDepth 100000 in
set_option maxHeartbeats 4000000 in
theorem r12_a {D : va_G} {tys : List (ClassId × FieldType)} {z : Nat} {X : State → Heap → Prop} {q : Nat → ClassId} (hI : ∀ U H, X U H → U.vm.findClass "[I" = some (q 0)) (hZ : ∀ U H, X U H → U.vm.findClass "[Z" = some (q 1)) {P : Heap → Prop} {d : Nat} (hd : 9 ≤ d) {f : Nat → va_E} (hf : f 0 = .inr (12, [.int 0, .null, .null, .int 0, .int 0, .null, .int 0, .int 0, .null, .null, .null, .null, .int 0, .int 0, .int 0, .int 0, .int 0, .int 0, .int 0, .int 0, .int 0, .int 0, .int 0, .int 0, .long 0, .int 0, .int 0, .int 0, .int 0, .null, .null, .null, .null, .int 0, .int 0, .int 0, .null, .null, .null, .null])) (κ : XK) (F : yF κ RX12 cX12_init 1 d D tys z X P 15 2000 15 2000 0 0) (k : ∀ κ', yF κ' RX12 cX12_init 1 d D tys z X P 15 2000 0 0 15 2000 → XV κ' (YP D z 16 (gR z q (fsR z))) 130 [(0, .ref (z + 0))] []) : XV κ (YP D z 1 f) 0 (lv_args 0 [.ref (z + 0)]) [] := by
  refine x_L (L' := [(0, .ref (z + 0))]) rfl ?_
  refine y_I (g := gR z q [.int 0, .null, .null, .int 0, .int 0, .null, .int 0, .int 0, .null, .null, .null, .null, .int 0, .int 0, .int 0, .int 0, .int 0, .int 0, .int 0, .int 0, .int 0, .int 0, .int 0, .int 0, .long 0, .int 0, .int 0, .int 0, .int 0, .null, .null, .null, .null, .int 0, .int 0, .int 0, .null, .null, .null, .null]) (fun x hx => by obtain rfl : x = 0 := (by omega); exact hf) ?_
  refine x_aload_n (pc := 0) F.1 0 dX12_init_0 rfl ?_
  refine y_obj (pc := 1) F.1 (by omega) q11_11 q1_10 q1_11 (by decide) dX12_init_1 ?_
  refine x_aload_n (pc := 4) F.1 0 dX12_init_4 rfl ?_
  refine x_sipush (pc := 5) (v := nI 960) F.1 dX12_init_5 (by decide) ?_
  refine z_newa (pc := 8) F (N := 960) 14 1040 1 960 hI q3_11 (by decide) (by omega) (by omega) (by omega) (by omega) dX12_init_8 (fun κF1 F1 => ?_)
  refine y_I (g := gR z q [.int 0, .null, .null, .int 0, .int 0, .null, .int 0, .int 0, .null, .null, .null, .null, .int 0, .int 0, .int 0, .int 0, .int 0, .int 0, .int 0, .int 0, .int 0, .int 0, .int 0, .int 0, .long 0, .int 0, .int 0, .int 0, .int 0, .null, .null, .null, .null, .int 0, .int 0, .int 0, .null, .null, .null, .null]) (fun x hx => by
    by_cases h : x = 1
    · subst h; rfl
    · exact fS_n h) ?_
  refine y_putF (pc := 10) F1.1 F1.2.1 F1.2.2.1 (j := 0) (CN := RX12) (T := TX12) (ref := RX12) (ci := 12) (fs := [.int 0, .null, .null, .int 0, .int 0, .null, .int 0, .int 0, .null, .null, .null, .null, .int 0, .int 0, .int 0, .int 0, .int 0, .int 0, .int 0, .int 0, .int 0, .int 0, .int 0, .int 0, .long 0, .int 0, .int 0, .int 0, .int 0, .null, .null, .null, .null, .int 0, .int 0, .int 0, .null, .null, .null, .null]) 1 tyX12 tyX12_ok nmX12 (by decide) rfl rfl inlX12 (by decide) q11_12 rfl rfl rfl (ty := .array .int) (by decide +kernel) rfl rfl (Nat.le_of_ble_eq_true rfl) dX12_init_10 ?_
  refine y_I (g := gR z q [.int 0, .ref (z + 1), .null, .int 0, .int 0, .null, .int 0, .int 0, .null, .null, .null, .null, .int 0, .int 0, .int 0, .int 0, .int 0, .int 0, .int 0, .int 0, .int 0, .int 0, .int 0, .int 0, .long 0, .int 0, .int 0, .int 0, .int 0, .null, .null, .null, .null, .int 0, .int 0, .int 0, .null, .null, .null, .null]) (fun x _ => gR_0) ?_
  refine x_aload_n (pc := 13) F1.1 0 dX12_init_13 rfl ?_
  refine x_bipush (pc := 14) (v := nI 6) F1.1 dX12_init_14 (by decide) ?_
  refine z_newa (pc := 16) F1 (N := 6) 13 1034 2 966 hI q3_11 (by decide) (by omega) (by omega) (by omega) (by omega) dX12_init_16 (fun κF2 F2 => ?_)
  refine y_I (g := gR z q [.int 0, .ref (z + 1), .null, .int 0, .int 0, .null, .int 0, .int 0, .null, .null, .null, .null, .int 0, .int 0, .int 0, .int 0, .int 0, .int 0, .int 0, .int 0, .int 0, .int 0, .int 0, .int 0, .long 0, .int 0, .int 0, .int 0, .int 0, .null, .null, .null, .null, .int 0, .int 0, .int 0, .null, .null, .null, .null]) (fun x hx => by
    by_cases h : x = 2
    · subst h; rfl
    · exact fS_n h) ?_
  refine y_putF (pc := 18) F2.1 F2.2.1 F2.2.2.1 (j := 0) (CN := RX12) (T := TX12) (ref := RX12) (ci := 12) (fs := [.int 0, .ref (z + 1), .null, .int 0, .int 0, .null, .int 0, .int 0, .null, .null, .null, .null, .int 0, .int 0, .int 0, .int 0, .int 0, .int 0, .int 0, .int 0, .int 0, .int 0, .int 0, .int 0, .long 0, .int 0, .int 0, .int 0, .int 0, .null, .null, .null, .null, .int 0, .int 0, .int 0, .null, .null, .null, .null]) 2 tyX12 tyX12_ok nmX12 (by decide) rfl rfl inlX12 (by decide) q11_13 rfl rfl rfl (ty := .array .int) (by decide +kernel) rfl rfl (Nat.le_of_ble_eq_true rfl) dX12_init_18 ?_
  refine y_I (g := gR z q [.int 0, .ref (z + 1), .ref (z + 2), .int 0, .int 0, .null, .int 0, .int 0, .null, .null, .null, .null, .int 0, .int 0, .int 0, .int 0, .int 0, .int 0, .int 0, .int 0, .int 0, .int 0, .int 0, .int 0, .long 0, .int 0, .int 0, .int 0, .int 0, .null, .null, .null, .null, .int 0, .int 0, .int 0, .null, .null, .null, .null]) (fun x _ => gR_0) ?_
  refine x_aload_n (pc := 21) F2.1 0 dX12_init_21 rfl ?_
  refine x_sipush (pc := 22) (v := nI 160) F2.1 dX12_init_22 (by decide) ?_
  refine z_newa (pc := 25) F2 (N := 160) 12 874 3 1126 hI q3_11 (by decide) (by omega) (by omega) (by omega) (by omega) dX12_init_25 (fun κF3 F3 => ?_)
  refine y_I (g := gR z q [.int 0, .ref (z + 1), .ref (z + 2), .int 0, .int 0, .null, .int 0, .int 0, .null, .null, .null, .null, .int 0, .int 0, .int 0, .int 0, .int 0, .int 0, .int 0, .int 0, .int 0, .int 0, .int 0, .int 0, .long 0, .int 0, .int 0, .int 0, .int 0, .null, .null, .null, .null, .int 0, .int 0, .int 0, .null, .null, .null, .null]) (fun x hx => by
    by_cases h : x = 3
    · subst h; rfl
    · exact fS_n h) ?_
  refine y_putF (pc := 27) F3.1 F3.2.1 F3.2.2.1 (j := 0) (CN := RX12) (T := TX12) (ref := RX12) (ci := 12) (fs := [.int 0, .ref (z + 1), .ref (z + 2), .int 0, .int 0, .null, .int 0, .int 0, .null, .null, .null, .null, .int 0, .int 0, .int 0, .int 0, .int 0, .int 0, .int 0, .int 0, .int 0, .int 0, .int 0, .int 0, .long 0, .int 0, .int 0, .int 0, .int 0, .null, .null, .null, .null, .int 0, .int 0, .int 0, .null, .null, .null, .null]) 5 tyX12 tyX12_ok nmX12 (by decide) rfl rfl inlX12 (by decide) q11_14 rfl rfl rfl (ty := .array .int) (by decide +kernel) rfl rfl (Nat.le_of_ble_eq_true rfl) dX12_init_27 ?_
  refine y_I (g := gR z q [.int 0, .ref (z + 1), .ref (z + 2), .int 0, .int 0, .ref (z + 3), .int 0, .int 0, .null, .null, .null, .null, .int 0, .int 0, .int 0, .int 0, .int 0, .int 0, .int 0, .int 0, .int 0, .int 0, .int 0, .int 0, .long 0, .int 0, .int 0, .int 0, .int 0, .null, .null, .null, .null, .int 0, .int 0, .int 0, .null, .null, .null, .null]) (fun x _ => gR_0) ?_
  refine x_aload_n (pc := 30) F3.1 0 dX12_init_30 rfl ?_
  refine x_bipush (pc := 31) (v := nI 6) F3.1 dX12_init_31 (by decide) ?_
  refine z_newa (pc := 33) F3 (N := 6) 11 868 4 1132 hI q3_11 (by decide) (by omega) (by omega) (by omega) (by omega) dX12_init_33 (fun κF4 F4 => ?_)
  refine y_I (g := gR z q [.int 0, .ref (z + 1), .ref (z + 2), .int 0, .int 0, .ref (z + 3), .int 0, .int 0, .null, .null, .null, .null, .int 0, .int 0, .int 0, .int 0, .int 0, .int 0, .int 0, .int 0, .int 0, .int 0, .int 0, .int 0, .long 0, .int 0, .int 0, .int 0, .int 0, .null, .null, .null, .null, .int 0, .int 0, .int 0, .null, .null, .null, .null]) (fun x hx => by
    by_cases h : x = 4
    · subst h; rfl
    · exact fS_n h) ?_
  refine y_putF (pc := 35) F4.1 F4.2.1 F4.2.2.1 (j := 0) (CN := RX12) (T := TX12) (ref := RX12) (ci := 12) (fs := [.int 0, .ref (z + 1), .ref (z + 2), .int 0, .int 0, .ref (z + 3), .int 0, .int 0, .null, .null, .null, .null, .int 0, .int 0, .int 0, .int 0, .int 0, .int 0, .int 0, .int 0, .int 0, .int 0, .int 0, .int 0, .long 0, .int 0, .int 0, .int 0, .int 0, .null, .null, .null, .null, .int 0, .int 0, .int 0, .null, .null, .null, .null]) 8 tyX12 tyX12_ok nmX12 (by decide) rfl rfl inlX12 (by decide) q11_15 rfl rfl rfl (ty := .array .int) (by decide +kernel) rfl rfl (Nat.le_of_ble_eq_true rfl) dX12_init_35 ?_
  refine y_I (g := gR z q [.int 0, .ref (z + 1), .ref (z + 2), .int 0, .int 0, .ref (z + 3), .int 0, .int 0, .ref (z + 4), .null, .null, .null, .int 0, .int 0, .int 0, .int 0, .int 0, .int 0, .int 0, .int 0, .int 0, .int 0, .int 0, .int 0, .long 0, .int 0, .int 0, .int 0, .int 0, .null, .null, .null, .null, .int 0, .int 0, .int 0, .null, .null, .null, .null]) (fun x _ => gR_0) ?_
  refine x_aload_n (pc := 38) F4.1 0 dX12_init_38 rfl ?_
  refine x_bipush (pc := 39) (v := nI 12) F4.1 dX12_init_39 (by decide) ?_
  refine z_newa (pc := 41) F4 (N := 12) 10 856 5 1144 hI q3_11 (by decide) (by omega) (by omega) (by omega) (by omega) dX12_init_41 (fun κF5 F5 => ?_)
  refine y_I (g := gR z q [.int 0, .ref (z + 1), .ref (z + 2), .int 0, .int 0, .ref (z + 3), .int 0, .int 0, .ref (z + 4), .null, .null, .null, .int 0, .int 0, .int 0, .int 0, .int 0, .int 0, .int 0, .int 0, .int 0, .int 0, .int 0, .int 0, .long 0, .int 0, .int 0, .int 0, .int 0, .null, .null, .null, .null, .int 0, .int 0, .int 0, .null, .null, .null, .null]) (fun x hx => by
    by_cases h : x = 5
    · subst h; rfl
    · exact fS_n h) ?_
  refine y_putF (pc := 43) F5.1 F5.2.1 F5.2.2.1 (j := 0) (CN := RX12) (T := TX12) (ref := RX12) (ci := 12) (fs := [.int 0, .ref (z + 1), .ref (z + 2), .int 0, .int 0, .ref (z + 3), .int 0, .int 0, .ref (z + 4), .null, .null, .null, .int 0, .int 0, .int 0, .int 0, .int 0, .int 0, .int 0, .int 0, .int 0, .int 0, .int 0, .int 0, .long 0, .int 0, .int 0, .int 0, .int 0, .null, .null, .null, .null, .int 0, .int 0, .int 0, .null, .null, .null, .null]) 9 tyX12 tyX12_ok nmX12 (by decide) rfl rfl inlX12 (by decide) q11_16 rfl rfl rfl (ty := .array .int) (by decide +kernel) rfl rfl (Nat.le_of_ble_eq_true rfl) dX12_init_43 ?_
  refine y_I (g := gR z q [.int 0, .ref (z + 1), .ref (z + 2), .int 0, .int 0, .ref (z + 3), .int 0, .int 0, .ref (z + 4), .ref (z + 5), .null, .null, .int 0, .int 0, .int 0, .int 0, .int 0, .int 0, .int 0, .int 0, .int 0, .int 0, .int 0, .int 0, .long 0, .int 0, .int 0, .int 0, .int 0, .null, .null, .null, .null, .int 0, .int 0, .int 0, .null, .null, .null, .null]) (fun x _ => gR_0) ?_
  refine x_aload_n (pc := 46) F5.1 0 dX12_init_46 rfl ?_
  refine x_bipush (pc := 47) (v := nI 48) F5.1 dX12_init_47 (by decide) ?_
  refine z_newa (pc := 49) F5 (N := 48) 9 808 6 1192 hI q3_11 (by decide) (by omega) (by omega) (by omega) (by omega) dX12_init_49 (fun κF6 F6 => ?_)
  refine y_I (g := gR z q [.int 0, .ref (z + 1), .ref (z + 2), .int 0, .int 0, .ref (z + 3), .int 0, .int 0, .ref (z + 4), .ref (z + 5), .null, .null, .int 0, .int 0, .int 0, .int 0, .int 0, .int 0, .int 0, .int 0, .int 0, .int 0, .int 0, .int 0, .long 0, .int 0, .int 0, .int 0, .int 0, .null, .null, .null, .null, .int 0, .int 0, .int 0, .null, .null, .null, .null]) (fun x hx => by
    by_cases h : x = 6
    · subst h; rfl
    · exact fS_n h) ?_
  refine y_putF (pc := 51) F6.1 F6.2.1 F6.2.2.1 (j := 0) (CN := RX12) (T := TX12) (ref := RX12) (ci := 12) (fs := [.int 0, .ref (z + 1), .ref (z + 2), .int 0, .int 0, .ref (z + 3), .int 0, .int 0, .ref (z + 4), .ref (z + 5), .null, .null, .int 0, .int 0, .int 0, .int 0, .int 0, .int 0, .int 0, .int 0, .int 0, .int 0, .int 0, .int 0, .long 0, .int 0, .int 0, .int 0, .int 0, .null, .null, .null, .null, .int 0, .int 0, .int 0, .null, .null, .null, .null]) 10 tyX12 tyX12_ok nmX12 (by decide) rfl rfl inlX12 (by decide) q11_17 rfl rfl rfl (ty := .array .int) (by decide +kernel) rfl rfl (Nat.le_of_ble_eq_true rfl) dX12_init_51 ?_
  refine y_I (g := gR z q [.int 0, .ref (z + 1), .ref (z + 2), .int 0, .int 0, .ref (z + 3), .int 0, .int 0, .ref (z + 4), .ref (z + 5), .ref (z + 6), .null, .int 0, .int 0, .int 0, .int 0, .int 0, .int 0, .int 0, .int 0, .int 0, .int 0, .int 0, .int 0, .long 0, .int 0, .int 0, .int 0, .int 0, .null, .null, .null, .null, .int 0, .int 0, .int 0, .null, .null, .null, .null]) (fun x _ => gR_0) ?_
  refine x_aload_n (pc := 54) F6.1 0 dX12_init_54 rfl ?_
  refine x_bipush (pc := 55) (v := nI 48) F6.1 dX12_init_55 (by decide) ?_
  refine z_newa (pc := 57) F6 (N := 48) 8 760 7 1240 hI q3_11 (by decide) (by omega) (by omega) (by omega) (by omega) dX12_init_57 (fun κF7 F7 => ?_)
  refine y_I (g := gR z q [.int 0, .ref (z + 1), .ref (z + 2), .int 0, .int 0, .ref (z + 3), .int 0, .int 0, .ref (z + 4), .ref (z + 5), .ref (z + 6), .null, .int 0, .int 0, .int 0, .int 0, .int 0, .int 0, .int 0, .int 0, .int 0, .int 0, .int 0, .int 0, .long 0, .int 0, .int 0, .int 0, .int 0, .null, .null, .null, .null, .int 0, .int 0, .int 0, .null, .null, .null, .null]) (fun x hx => by
    by_cases h : x = 7
    · subst h; rfl
    · exact fS_n h) ?_
  refine y_putF (pc := 59) F7.1 F7.2.1 F7.2.2.1 (j := 0) (CN := RX12) (T := TX12) (ref := RX12) (ci := 12) (fs := [.int 0, .ref (z + 1), .ref (z + 2), .int 0, .int 0, .ref (z + 3), .int 0, .int 0, .ref (z + 4), .ref (z + 5), .ref (z + 6), .null, .int 0, .int 0, .int 0, .int 0, .int 0, .int 0, .int 0, .int 0, .int 0, .int 0, .int 0, .int 0, .long 0, .int 0, .int 0, .int 0, .int 0, .null, .null, .null, .null, .int 0, .int 0, .int 0, .null, .null, .null, .null]) 11 tyX12 tyX12_ok nmX12 (by decide) rfl rfl inlX12 (by decide) q11_18 rfl rfl rfl (ty := .array .int) (by decide +kernel) rfl rfl (Nat.le_of_ble_eq_true rfl) dX12_init_59 ?_
  refine y_I (g := gR z q [.int 0, .ref (z + 1), .ref (z + 2), .int 0, .int 0, .ref (z + 3), .int 0, .int 0, .ref (z + 4), .ref (z + 5), .ref (z + 6), .ref (z + 7), .int 0, .int 0, .int 0, .int 0, .int 0, .int 0, .int 0, .int 0, .int 0, .int 0, .int 0, .int 0, .long 0, .int 0, .int 0, .int 0, .int 0, .null, .null, .null, .null, .int 0, .int 0, .int 0, .null, .null, .null, .null]) (fun x _ => gR_0) ?_
  refine x_aload_n (pc := 62) F7.1 0 dX12_init_62 rfl ?_
  refine x_sipush (pc := 63) (v := nI 480) F7.1 dX12_init_63 (by decide) ?_
  refine z_newa (pc := 66) F7 (N := 480) 7 280 8 1720 hI q3_11 (by decide) (by omega) (by omega) (by omega) (by omega) dX12_init_66 (fun κF8 F8 => ?_)
  refine y_I (g := gR z q [.int 0, .ref (z + 1), .ref (z + 2), .int 0, .int 0, .ref (z + 3), .int 0, .int 0, .ref (z + 4), .ref (z + 5), .ref (z + 6), .ref (z + 7), .int 0, .int 0, .int 0, .int 0, .int 0, .int 0, .int 0, .int 0, .int 0, .int 0, .int 0, .int 0, .long 0, .int 0, .int 0, .int 0, .int 0, .null, .null, .null, .null, .int 0, .int 0, .int 0, .null, .null, .null, .null]) (fun x hx => by
    by_cases h : x = 8
    · subst h; rfl
    · exact fS_n h) ?_
  refine y_putF (pc := 68) F8.1 F8.2.1 F8.2.2.1 (j := 0) (CN := RX12) (T := TX12) (ref := RX12) (ci := 12) (fs := [.int 0, .ref (z + 1), .ref (z + 2), .int 0, .int 0, .ref (z + 3), .int 0, .int 0, .ref (z + 4), .ref (z + 5), .ref (z + 6), .ref (z + 7), .int 0, .int 0, .int 0, .int 0, .int 0, .int 0, .int 0, .int 0, .int 0, .int 0, .int 0, .int 0, .long 0, .int 0, .int 0, .int 0, .int 0, .null, .null, .null, .null, .int 0, .int 0, .int 0, .null, .null, .null, .null]) 29 tyX12 tyX12_ok nmX12 (by decide) rfl rfl inlX12 (by decide) q11_19 rfl rfl rfl (ty := .array .int) (by decide +kernel) rfl rfl (Nat.le_of_ble_eq_true rfl) dX12_init_68 ?_
  refine y_I (g := gR z q [.int 0, .ref (z + 1), .ref (z + 2), .int 0, .int 0, .ref (z + 3), .int 0, .int 0, .ref (z + 4), .ref (z + 5), .ref (z + 6), .ref (z + 7), .int 0, .int 0, .int 0, .int 0, .int 0, .int 0, .int 0, .int 0, .int 0, .int 0, .int 0, .int 0, .long 0, .int 0, .int 0, .int 0, .int 0, .ref (z + 8), .null, .null, .null, .int 0, .int 0, .int 0, .null, .null, .null, .null]) (fun x _ => gR_0) ?_
  refine x_aload_n (pc := 71) F8.1 0 dX12_init_71 rfl ?_
  refine x_bipush (pc := 72) (v := nI 12) F8.1 dX12_init_72 (by decide) ?_
  refine z_newa (pc := 74) F8 (N := 12) 6 268 9 1732 hI q3_11 (by decide) (by omega) (by omega) (by omega) (by omega) dX12_init_74 (fun κF9 F9 => ?_)
  refine y_I (g := gR z q [.int 0, .ref (z + 1), .ref (z + 2), .int 0, .int 0, .ref (z + 3), .int 0, .int 0, .ref (z + 4), .ref (z + 5), .ref (z + 6), .ref (z + 7), .int 0, .int 0, .int 0, .int 0, .int 0, .int 0, .int 0, .int 0, .int 0, .int 0, .int 0, .int 0, .long 0, .int 0, .int 0, .int 0, .int 0, .ref (z + 8), .null, .null, .null, .int 0, .int 0, .int 0, .null, .null, .null, .null]) (fun x hx => by
    by_cases h : x = 9
    · subst h; rfl
    · exact fS_n h) ?_
  refine y_putF (pc := 76) F9.1 F9.2.1 F9.2.2.1 (j := 0) (CN := RX12) (T := TX12) (ref := RX12) (ci := 12) (fs := [.int 0, .ref (z + 1), .ref (z + 2), .int 0, .int 0, .ref (z + 3), .int 0, .int 0, .ref (z + 4), .ref (z + 5), .ref (z + 6), .ref (z + 7), .int 0, .int 0, .int 0, .int 0, .int 0, .int 0, .int 0, .int 0, .int 0, .int 0, .int 0, .int 0, .long 0, .int 0, .int 0, .int 0, .int 0, .ref (z + 8), .null, .null, .null, .int 0, .int 0, .int 0, .null, .null, .null, .null]) 30 tyX12 tyX12_ok nmX12 (by decide) rfl rfl inlX12 (by decide) q11_20 rfl rfl rfl (ty := .array .int) (by decide +kernel) rfl rfl (Nat.le_of_ble_eq_true rfl) dX12_init_76 ?_
  refine y_I (g := gR z q [.int 0, .ref (z + 1), .ref (z + 2), .int 0, .int 0, .ref (z + 3), .int 0, .int 0, .ref (z + 4), .ref (z + 5), .ref (z + 6), .ref (z + 7), .int 0, .int 0, .int 0, .int 0, .int 0, .int 0, .int 0, .int 0, .int 0, .int 0, .int 0, .int 0, .long 0, .int 0, .int 0, .int 0, .int 0, .ref (z + 8), .ref (z + 9), .null, .null, .int 0, .int 0, .int 0, .null, .null, .null, .null]) (fun x _ => gR_0) ?_
  refine x_aload_n (pc := 79) F9.1 0 dX12_init_79 rfl ?_
  refine x_bipush (pc := 80) (v := nI 48) F9.1 dX12_init_80 (by decide) ?_
  refine z_newa (pc := 82) F9 (N := 48) 5 220 10 1780 hI q3_11 (by decide) (by omega) (by omega) (by omega) (by omega) dX12_init_82 (fun κF10 F10 => ?_)
  refine y_I (g := gR z q [.int 0, .ref (z + 1), .ref (z + 2), .int 0, .int 0, .ref (z + 3), .int 0, .int 0, .ref (z + 4), .ref (z + 5), .ref (z + 6), .ref (z + 7), .int 0, .int 0, .int 0, .int 0, .int 0, .int 0, .int 0, .int 0, .int 0, .int 0, .int 0, .int 0, .long 0, .int 0, .int 0, .int 0, .int 0, .ref (z + 8), .ref (z + 9), .null, .null, .int 0, .int 0, .int 0, .null, .null, .null, .null]) (fun x hx => by
    by_cases h : x = 10
    · subst h; rfl
    · exact fS_n h) ?_
  refine y_putF (pc := 84) F10.1 F10.2.1 F10.2.2.1 (j := 0) (CN := RX12) (T := TX12) (ref := RX12) (ci := 12) (fs := [.int 0, .ref (z + 1), .ref (z + 2), .int 0, .int 0, .ref (z + 3), .int 0, .int 0, .ref (z + 4), .ref (z + 5), .ref (z + 6), .ref (z + 7), .int 0, .int 0, .int 0, .int 0, .int 0, .int 0, .int 0, .int 0, .int 0, .int 0, .int 0, .int 0, .long 0, .int 0, .int 0, .int 0, .int 0, .ref (z + 8), .ref (z + 9), .null, .null, .int 0, .int 0, .int 0, .null, .null, .null, .null]) 31 tyX12 tyX12_ok nmX12 (by decide) rfl rfl inlX12 (by decide) q11_21 rfl rfl rfl (ty := .array .int) (by decide +kernel) rfl rfl (Nat.le_of_ble_eq_true rfl) dX12_init_84 ?_
  refine y_I (g := gR z q [.int 0, .ref (z + 1), .ref (z + 2), .int 0, .int 0, .ref (z + 3), .int 0, .int 0, .ref (z + 4), .ref (z + 5), .ref (z + 6), .ref (z + 7), .int 0, .int 0, .int 0, .int 0, .int 0, .int 0, .int 0, .int 0, .int 0, .int 0, .int 0, .int 0, .long 0, .int 0, .int 0, .int 0, .int 0, .ref (z + 8), .ref (z + 9), .ref (z + 10), .null, .int 0, .int 0, .int 0, .null, .null, .null, .null]) (fun x _ => gR_0) ?_
  refine x_aload_n (pc := 87) F10.1 0 dX12_init_87 rfl ?_
  refine x_bipush (pc := 88) (v := nI 48) F10.1 dX12_init_88 (by decide) ?_
  refine z_newa (pc := 90) F10 (N := 48) 4 172 11 1828 hI q3_11 (by decide) (by omega) (by omega) (by omega) (by omega) dX12_init_90 (fun κF11 F11 => ?_)
  refine y_I (g := gR z q [.int 0, .ref (z + 1), .ref (z + 2), .int 0, .int 0, .ref (z + 3), .int 0, .int 0, .ref (z + 4), .ref (z + 5), .ref (z + 6), .ref (z + 7), .int 0, .int 0, .int 0, .int 0, .int 0, .int 0, .int 0, .int 0, .int 0, .int 0, .int 0, .int 0, .long 0, .int 0, .int 0, .int 0, .int 0, .ref (z + 8), .ref (z + 9), .ref (z + 10), .null, .int 0, .int 0, .int 0, .null, .null, .null, .null]) (fun x hx => by
    by_cases h : x = 11
    · subst h; rfl
    · exact fS_n h) ?_
  refine y_putF (pc := 92) F11.1 F11.2.1 F11.2.2.1 (j := 0) (CN := RX12) (T := TX12) (ref := RX12) (ci := 12) (fs := [.int 0, .ref (z + 1), .ref (z + 2), .int 0, .int 0, .ref (z + 3), .int 0, .int 0, .ref (z + 4), .ref (z + 5), .ref (z + 6), .ref (z + 7), .int 0, .int 0, .int 0, .int 0, .int 0, .int 0, .int 0, .int 0, .int 0, .int 0, .int 0, .int 0, .long 0, .int 0, .int 0, .int 0, .int 0, .ref (z + 8), .ref (z + 9), .ref (z + 10), .null, .int 0, .int 0, .int 0, .null, .null, .null, .null]) 32 tyX12 tyX12_ok nmX12 (by decide) rfl rfl inlX12 (by decide) q11_22 rfl rfl rfl (ty := .array .int) (by decide +kernel) rfl rfl (Nat.le_of_ble_eq_true rfl) dX12_init_92 ?_
  refine y_I (g := gR z q [.int 0, .ref (z + 1), .ref (z + 2), .int 0, .int 0, .ref (z + 3), .int 0, .int 0, .ref (z + 4), .ref (z + 5), .ref (z + 6), .ref (z + 7), .int 0, .int 0, .int 0, .int 0, .int 0, .int 0, .int 0, .int 0, .int 0, .int 0, .int 0, .int 0, .long 0, .int 0, .int 0, .int 0, .int 0, .ref (z + 8), .ref (z + 9), .ref (z + 10), .ref (z + 11), .int 0, .int 0, .int 0, .null, .null, .null, .null]) (fun x _ => gR_0) ?_
  refine x_aload_n (pc := 95) F11.1 0 dX12_init_95 rfl ?_
  refine x_iconst (pc := 96) (v := -1) F11.1 dX12_init_96 rfl ?_
  refine y_put (pc := 97) F11.1 F11.2.1 (j := 0) (CN := RX12) (T := TX12) (ref := RX12) (ci := 12) (fs := [.int 0, .ref (z + 1), .ref (z + 2), .int 0, .int 0, .ref (z + 3), .int 0, .int 0, .ref (z + 4), .ref (z + 5), .ref (z + 6), .ref (z + 7), .int 0, .int 0, .int 0, .int 0, .int 0, .int 0, .int 0, .int 0, .int 0, .int 0, .int 0, .int 0, .long 0, .int 0, .int 0, .int 0, .int 0, .ref (z + 8), .ref (z + 9), .ref (z + 10), .ref (z + 11), .int 0, .int 0, .int 0, .null, .null, .null, .null]) 33 tyX12 tyX12_ok nmX12 (by decide) rfl rfl inlX12 (by decide) q11_23 rfl rfl (ty := .int) (by decide +kernel) rfl rfl (Nat.le_of_ble_eq_true rfl) dX12_init_97 ?_
  refine y_I (g := gR z q [.int 0, .ref (z + 1), .ref (z + 2), .int 0, .int 0, .ref (z + 3), .int 0, .int 0, .ref (z + 4), .ref (z + 5), .ref (z + 6), .ref (z + 7), .int 0, .int 0, .int 0, .int 0, .int 0, .int 0, .int 0, .int 0, .int 0, .int 0, .int 0, .int 0, .long 0, .int 0, .int 0, .int 0, .int 0, .ref (z + 8), .ref (z + 9), .ref (z + 10), .ref (z + 11), .int (-1), .int 0, .int 0, .null, .null, .null, .null]) (fun x _ => gR_0) ?_
  refine x_aload_n (pc := 100) F11.1 0 dX12_init_100 rfl ?_
  refine x_iconst (pc := 101) (v := nI 4) F11.1 dX12_init_101 (by decide) ?_
  refine z_newz (pc := 102) F11 (N := 4) 3 168 12 1832 hZ q12_0 (by decide) (by omega) (by omega) (by omega) (by omega) dX12_init_102 (fun κF12 F12 => ?_)
  refine y_I (g := gR z q [.int 0, .ref (z + 1), .ref (z + 2), .int 0, .int 0, .ref (z + 3), .int 0, .int 0, .ref (z + 4), .ref (z + 5), .ref (z + 6), .ref (z + 7), .int 0, .int 0, .int 0, .int 0, .int 0, .int 0, .int 0, .int 0, .int 0, .int 0, .int 0, .int 0, .long 0, .int 0, .int 0, .int 0, .int 0, .ref (z + 8), .ref (z + 9), .ref (z + 10), .ref (z + 11), .int (-1), .int 0, .int 0, .null, .null, .null, .null]) (fun x hx => by
    by_cases h : x = 12
    · subst h; rfl
    · exact fS_n h) ?_
  refine y_putF (pc := 104) F12.1 F12.2.1 F12.2.2.1 (j := 0) (CN := RX12) (T := TX12) (ref := RX12) (ci := 12) (fs := [.int 0, .ref (z + 1), .ref (z + 2), .int 0, .int 0, .ref (z + 3), .int 0, .int 0, .ref (z + 4), .ref (z + 5), .ref (z + 6), .ref (z + 7), .int 0, .int 0, .int 0, .int 0, .int 0, .int 0, .int 0, .int 0, .int 0, .int 0, .int 0, .int 0, .long 0, .int 0, .int 0, .int 0, .int 0, .ref (z + 8), .ref (z + 9), .ref (z + 10), .ref (z + 11), .int (-1), .int 0, .int 0, .null, .null, .null, .null]) 36 tyX12 tyX12_ok nmX12 (by decide) rfl rfl inlX12 (by decide) q12_1 rfl rfl rfl (ty := .array .boolean) (by decide +kernel) rfl rfl (Nat.le_of_ble_eq_true rfl) dX12_init_104 ?_
  refine y_I (g := gR z q [.int 0, .ref (z + 1), .ref (z + 2), .int 0, .int 0, .ref (z + 3), .int 0, .int 0, .ref (z + 4), .ref (z + 5), .ref (z + 6), .ref (z + 7), .int 0, .int 0, .int 0, .int 0, .int 0, .int 0, .int 0, .int 0, .int 0, .int 0, .int 0, .int 0, .long 0, .int 0, .int 0, .int 0, .int 0, .ref (z + 8), .ref (z + 9), .ref (z + 10), .ref (z + 11), .int (-1), .int 0, .int 0, .ref (z + 12), .null, .null, .null]) (fun x _ => gR_0) ?_
  refine x_aload_n (pc := 107) F12.1 0 dX12_init_107 rfl ?_
  refine x_iconst (pc := 108) (v := nI 4) F12.1 dX12_init_108 (by decide) ?_
  refine z_newa (pc := 109) F12 (N := 4) 2 164 13 1836 hI q3_11 (by decide) (by omega) (by omega) (by omega) (by omega) dX12_init_109 (fun κF13 F13 => ?_)
  refine y_I (g := gR z q [.int 0, .ref (z + 1), .ref (z + 2), .int 0, .int 0, .ref (z + 3), .int 0, .int 0, .ref (z + 4), .ref (z + 5), .ref (z + 6), .ref (z + 7), .int 0, .int 0, .int 0, .int 0, .int 0, .int 0, .int 0, .int 0, .int 0, .int 0, .int 0, .int 0, .long 0, .int 0, .int 0, .int 0, .int 0, .ref (z + 8), .ref (z + 9), .ref (z + 10), .ref (z + 11), .int (-1), .int 0, .int 0, .ref (z + 12), .null, .null, .null]) (fun x hx => by
    by_cases h : x = 13
    · subst h; rfl
    · exact fS_n h) ?_
  refine y_putF (pc := 111) F13.1 F13.2.1 F13.2.2.1 (j := 0) (CN := RX12) (T := TX12) (ref := RX12) (ci := 12) (fs := [.int 0, .ref (z + 1), .ref (z + 2), .int 0, .int 0, .ref (z + 3), .int 0, .int 0, .ref (z + 4), .ref (z + 5), .ref (z + 6), .ref (z + 7), .int 0, .int 0, .int 0, .int 0, .int 0, .int 0, .int 0, .int 0, .int 0, .int 0, .int 0, .int 0, .long 0, .int 0, .int 0, .int 0, .int 0, .ref (z + 8), .ref (z + 9), .ref (z + 10), .ref (z + 11), .int (-1), .int 0, .int 0, .ref (z + 12), .null, .null, .null]) 37 tyX12 tyX12_ok nmX12 (by decide) rfl rfl inlX12 (by decide) q12_2 rfl rfl rfl (ty := .array .int) (by decide +kernel) rfl rfl (Nat.le_of_ble_eq_true rfl) dX12_init_111 ?_
  refine y_I (g := gR z q [.int 0, .ref (z + 1), .ref (z + 2), .int 0, .int 0, .ref (z + 3), .int 0, .int 0, .ref (z + 4), .ref (z + 5), .ref (z + 6), .ref (z + 7), .int 0, .int 0, .int 0, .int 0, .int 0, .int 0, .int 0, .int 0, .int 0, .int 0, .int 0, .int 0, .long 0, .int 0, .int 0, .int 0, .int 0, .ref (z + 8), .ref (z + 9), .ref (z + 10), .ref (z + 11), .int (-1), .int 0, .int 0, .ref (z + 12), .ref (z + 13), .null, .null]) (fun x _ => gR_0) ?_
  refine x_aload_n (pc := 114) F13.1 0 dX12_init_114 rfl ?_
  refine x_iconst (pc := 115) (v := nI 4) F13.1 dX12_init_115 (by decide) ?_
  refine z_newa (pc := 116) F13 (N := 4) 1 160 14 1840 hI q3_11 (by decide) (by omega) (by omega) (by omega) (by omega) dX12_init_116 (fun κF14 F14 => ?_)
  refine y_I (g := gR z q [.int 0, .ref (z + 1), .ref (z + 2), .int 0, .int 0, .ref (z + 3), .int 0, .int 0, .ref (z + 4), .ref (z + 5), .ref (z + 6), .ref (z + 7), .int 0, .int 0, .int 0, .int 0, .int 0, .int 0, .int 0, .int 0, .int 0, .int 0, .int 0, .int 0, .long 0, .int 0, .int 0, .int 0, .int 0, .ref (z + 8), .ref (z + 9), .ref (z + 10), .ref (z + 11), .int (-1), .int 0, .int 0, .ref (z + 12), .ref (z + 13), .null, .null]) (fun x hx => by
    by_cases h : x = 14
    · subst h; rfl
    · exact fS_n h) ?_
  refine y_putF (pc := 118) F14.1 F14.2.1 F14.2.2.1 (j := 0) (CN := RX12) (T := TX12) (ref := RX12) (ci := 12) (fs := [.int 0, .ref (z + 1), .ref (z + 2), .int 0, .int 0, .ref (z + 3), .int 0, .int 0, .ref (z + 4), .ref (z + 5), .ref (z + 6), .ref (z + 7), .int 0, .int 0, .int 0, .int 0, .int 0, .int 0, .int 0, .int 0, .int 0, .int 0, .int 0, .int 0, .long 0, .int 0, .int 0, .int 0, .int 0, .ref (z + 8), .ref (z + 9), .ref (z + 10), .ref (z + 11), .int (-1), .int 0, .int 0, .ref (z + 12), .ref (z + 13), .null, .null]) 38 tyX12 tyX12_ok nmX12 (by decide) rfl rfl inlX12 (by decide) q12_3 rfl rfl rfl (ty := .array .int) (by decide +kernel) rfl rfl (Nat.le_of_ble_eq_true rfl) dX12_init_118 ?_
  refine y_I (g := gR z q [.int 0, .ref (z + 1), .ref (z + 2), .int 0, .int 0, .ref (z + 3), .int 0, .int 0, .ref (z + 4), .ref (z + 5), .ref (z + 6), .ref (z + 7), .int 0, .int 0, .int 0, .int 0, .int 0, .int 0, .int 0, .int 0, .int 0, .int 0, .int 0, .int 0, .long 0, .int 0, .int 0, .int 0, .int 0, .ref (z + 8), .ref (z + 9), .ref (z + 10), .ref (z + 11), .int (-1), .int 0, .int 0, .ref (z + 12), .ref (z + 13), .ref (z + 14), .null]) (fun x _ => gR_0) ?_
  refine x_aload_n (pc := 121) F14.1 0 dX12_init_121 rfl ?_
  refine x_sipush (pc := 122) (v := nI 160) F14.1 dX12_init_122 (by decide) ?_
  refine z_newa (pc := 125) F14 (N := 160) 0 0 15 2000 hI q3_11 (by decide) (by omega) (by omega) (by omega) (by omega) dX12_init_125 (fun κF15 F15 => ?_)
  refine y_I (g := gR z q [.int 0, .ref (z + 1), .ref (z + 2), .int 0, .int 0, .ref (z + 3), .int 0, .int 0, .ref (z + 4), .ref (z + 5), .ref (z + 6), .ref (z + 7), .int 0, .int 0, .int 0, .int 0, .int 0, .int 0, .int 0, .int 0, .int 0, .int 0, .int 0, .int 0, .long 0, .int 0, .int 0, .int 0, .int 0, .ref (z + 8), .ref (z + 9), .ref (z + 10), .ref (z + 11), .int (-1), .int 0, .int 0, .ref (z + 12), .ref (z + 13), .ref (z + 14), .null]) (fun x hx => by
    by_cases h : x = 15
    · subst h; rfl
    · exact fS_n h) ?_
  refine y_putF (pc := 127) F15.1 F15.2.1 F15.2.2.1 (j := 0) (CN := RX12) (T := TX12) (ref := RX12) (ci := 12) (fs := [.int 0, .ref (z + 1), .ref (z + 2), .int 0, .int 0, .ref (z + 3), .int 0, .int 0, .ref (z + 4), .ref (z + 5), .ref (z + 6), .ref (z + 7), .int 0, .int 0, .int 0, .int 0, .int 0, .int 0, .int 0, .int 0, .int 0, .int 0, .int 0, .int 0, .long 0, .int 0, .int 0, .int 0, .int 0, .ref (z + 8), .ref (z + 9), .ref (z + 10), .ref (z + 11), .int (-1), .int 0, .int 0, .ref (z + 12), .ref (z + 13), .ref (z + 14), .null]) 39 tyX12 tyX12_ok nmX12 (by decide) rfl rfl inlX12 (by decide) q12_4 rfl rfl rfl (ty := .array .int) (by decide +kernel) rfl rfl (Nat.le_of_ble_eq_true rfl) dX12_init_127 ?_
  refine y_I (g := gR z q [.int 0, .ref (z + 1), .ref (z + 2), .int 0, .int 0, .ref (z + 3), .int 0, .int 0, .ref (z + 4), .ref (z + 5), .ref (z + 6), .ref (z + 7), .int 0, .int 0, .int 0, .int 0, .int 0, .int 0, .int 0, .int 0, .int 0, .int 0, .int 0, .int 0, .long 0, .int 0, .int 0, .int 0, .int 0, .ref (z + 8), .ref (z + 9), .ref (z + 10), .ref (z + 11), .int (-1), .int 0, .int 0, .ref (z + 12), .ref (z + 13), .ref (z + 14), .ref (z + 15)]) (fun x _ => gR_0) ?_
  exact k _ F15
set_option maxRecDepth 100000 in
theorem re_16 (z : Nat) (q : Nat → ClassId) (D : va_G) (X : State → Heap → Prop) : ∀ n, n < 16 → yEq (gR z q (fsR z) n) (cR (tR z q D X) n (mR n)) := lt_sc (lt_sc (lt_sc (lt_sc (lt_sc (lt_sc (lt_sc (lt_sc (lt_sc (lt_sc (lt_sc (lt_sc (lt_sc (lt_sc (lt_sc (lt_sc ((fun n h => absurd h (Nat.not_lt_zero n))) (show yEq (gR z q (fsR z) 0) (cR (tR z q D X) 0 (mR 0)) from yEq_r rfl)) (show yEq (gR z q (fsR z) 1) (cR (tR z q D X) 1 (mR 1)) from yEq_r rfl)) (show yEq (gR z q (fsR z) 2) (cR (tR z q D X) 2 (mR 2)) from yEq_r rfl)) (show yEq (gR z q (fsR z) 3) (cR (tR z q D X) 3 (mR 3)) from yEq_r rfl)) (show yEq (gR z q (fsR z) 4) (cR (tR z q D X) 4 (mR 4)) from yEq_r rfl)) (show yEq (gR z q (fsR z) 5) (cR (tR z q D X) 5 (mR 5)) from yEq_r rfl)) (show yEq (gR z q (fsR z) 6) (cR (tR z q D X) 6 (mR 6)) from yEq_r rfl)) (show yEq (gR z q (fsR z) 7) (cR (tR z q D X) 7 (mR 7)) from yEq_r rfl)) (show yEq (gR z q (fsR z) 8) (cR (tR z q D X) 8 (mR 8)) from yEq_r rfl)) (show yEq (gR z q (fsR z) 9) (cR (tR z q D X) 9 (mR 9)) from yEq_r rfl)) (show yEq (gR z q (fsR z) 10) (cR (tR z q D X) 10 (mR 10)) from yEq_r rfl)) (show yEq (gR z q (fsR z) 11) (cR (tR z q D X) 11 (mR 11)) from yEq_r rfl)) (show yEq (gR z q (fsR z) 12) (cR (tR z q D X) 12 (mR 12)) from yEq_r rfl)) (show yEq (gR z q (fsR z) 13) (cR (tR z q D X) 13 (mR 13)) from yEq_r rfl)) (show yEq (gR z q (fsR z) 14) (cR (tR z q D X) 14 (mR 14)) from yEq_r rfl)) (show yEq (gR z q (fsR z) 15) (cR (tR z q D X) 15 (mR 15)) from yEq_r rfl)
theorem rcells_ok (z : Nat) (q : Nat → ClassId) (D : va_G) (X : State → Heap → Prop) {H : Heap} (h : YP D z 16 (gR z q (fsR z)) H) : xP (wR (tR z q D X)) mR H := fun k e hk => by
  obtain ⟨h1, rfl⟩ := xl_at hk
  exact re_16 z q D X k h1 D _ H (h.2 k h1)
theorem tR_I (z : Nat) (q : Nat → ClassId) (D : va_G) (X : State → Heap → Prop) : xI (wR (tR z q D X)) := fun i j hi hj e => by
  have e2 : z + i = z + j := e
  omega
theorem tR_A (z : Nat) (q : Nat → ClassId) (D : va_G) (X : State → Heap → Prop) {x : Nat} (h : xA (wR (tR z q D X)) x) : z ≤ x ∧ x < z + 16 := by
  obtain ⟨n, hn, rfl⟩ := h
  exact ⟨Nat.le_add_right _ _, Nat.add_lt_add_left hn z⟩
theorem tR_E (z : Nat) (q : Nat → ClassId) (D : va_G) (X : State → Heap → Prop) {κ : XK} {own : String} {cc : ByteArray} {n d nc ns rc rs uc us : Nat} {P : Heap → Prop} (F : yF κ own cc n d D (wR (tR z q D X)).2.2.2.2.1 z X P nc ns rc rs uc us) : XE κ (wR (tR z q D X)) := by
  obtain ⟨p, l, e, R, s, m, args, below, meth, c, Q, A, nL, cells, slots⟩ := κ
  obtain ⟨-, E, -, -, hX, -, -⟩ := F
  exact ⟨E.1, tR_I z q D X, fun x hx => E.2 x (tR_A z q D X hx).1, fun U H locs hvm hS => hX.1 U H locs hvm hS, hX.2⟩
def sI (i : Nat) (M : MM) : Prop := (∀ k, k < 8 * i → M 1 k = frR k) ∧ ∀ a, a ≠ 1 → M a = mR a
theorem sI_s {i p : Nat} {M : MM} {x1 x2 x3 x4 x5 x6 x7 x8 : Int32} (h : sI i M) (hp : p = 8 * i) (h1 : frR p = x1) (h2 : frR (p + 1) = x2) (h3 : frR (p + 2) = x3) (h4 : frR (p + 3) = x4) (h5 : frR (p + 4) = x5) (h6 : frR (p + 5) = x6) (h7 : frR (p + 6) = x7) (h8 : frR (p + 7) = x8) : sI (i + 1) (mu (mu (mu (mu (mu (mu (mu (mu M 1 p x1) 1 (p + 1) x2) 1 (p + 2) x3) 1 (p + 3) x4) 1 (p + 4) x5) 1 (p + 5) x6) 1 (p + 6) x7) 1 (p + 7) x8) := by
  refine ⟨fun k hk => ?_, fun a ha => (sp_o a ha).trans (h.2 a ha)⟩
  rw [sp_at]
  by_cases g8 : k = p + 7
  · rw [if_pos g8, g8, h8]
  rw [if_neg g8]
  by_cases g7 : k = p + 6
  · rw [if_pos g7, g7, h7]
  rw [if_neg g7]
  by_cases g6 : k = p + 5
  · rw [if_pos g6, g6, h6]
  rw [if_neg g6]
  by_cases g5 : k = p + 4
  · rw [if_pos g5, g5, h5]
  rw [if_neg g5]
  by_cases g4 : k = p + 3
  · rw [if_pos g4, g4, h4]
  rw [if_neg g4]
  by_cases g3 : k = p + 2
  · rw [if_pos g3, g3, h3]
  rw [if_neg g3]
  by_cases g2 : k = p + 1
  · rw [if_pos g2, g2, h2]
  rw [if_neg g2]
  by_cases g1 : k = p
  · rw [if_pos g1, g1, h1]
  rw [if_neg g1]
  exact h.1 k (by omega)
set_option maxRecDepth 100000 in
set_option maxHeartbeats 4000000 in
theorem c_X12_init (z : Nat) (q : Nat → ClassId) (D : va_G) (X : State → Heap → Prop) (hI : ∀ U H, X U H → U.vm.findClass "[I" = some (q 0)) (hZ : ∀ U H, X U H → U.vm.findClass "[Z" = some (q 1)) {f : Nat → va_E} (hf : f 0 = .inr (12, [.int 0, .null, .null, .int 0, .int 0, .null, .int 0, .int 0, .null, .null, .null, .null, .int 0, .int 0, .int 0, .int 0, .int 0, .int 0, .int 0, .int 0, .int 0, .int 0, .int 0, .int 0, .long 0, .int 0, .int 0, .int 0, .int 0, .null, .null, .null, .null, .int 0, .int 0, .int 0, .null, .null, .null, .null])) : ZMet D (wR (tR z q D X)).2.2.2.2.1 z X yX12_init cX12_init 1 9 15 2000 [.ref (z + 0)] 1 f (fun H => ∃ M, RR sF M ∧ M 0 28 = 0 ∧ xP (wR (tR z q D X)) M H) := by
  refine z_met RX12 (by decide) rfl rfl (Nat.le_of_ble_eq_true rfl) (fun κ F => ?_)
  refine r12_a hI hZ (by decide) hf κ F (fun κ1 F1 => ?_)
  refine x_I (I' := xP (wR (tR z q D X)) mR) (fun H h => rcells_ok z q D X h) ?_
  have E := tR_E z q D X F1
  have C := F1.1
  have S0 : sI 0 mR := ⟨fun k hk => absurd hk (Nat.not_lt_zero _), fun _ _ => rfl⟩
  generalize ht : tR z q D X = t at E ⊢
  rw [show z + 0 = t.1 0 by rw [← ht]; rfl]
  generalize hM0 : mR = M0 at ⊢
  rw [hM0] at S0
  refine x_aload_n (pc := 130) C 0 dX12_init_130 rfl ?_
  refine x_iconst (pc := 131) (v := nI 0) C dX12_init_131 (by decide) ?_
  refine x_bipush (pc := 132) (v := 116) C dX12_init_132 rfl ?_
  refine x_bipush (pc := 134) (v := 97) C dX12_init_134 rfl ?_
  refine x_bipush (pc := 136) (v := 107) C dX12_init_136 rfl ?_
  refine x_bipush (pc := 138) (v := 101) C dX12_init_138 rfl ?_
  refine x_bipush (pc := 140) (v := 115) C dX12_init_140 rfl ?_
  refine x_bipush (pc := 142) (v := 32) C dX12_init_142 rfl ?_
  refine x_bipush (pc := 144) (v := 104) C dX12_init_144 rfl ?_
  refine x_bipush (pc := 146) (v := 101) C dX12_init_146 rfl ?_
  refine x_callV (pc := 148) C E [.int (nI 0), .int 116, .int 97, .int 107, .int 101, .int 115, .int 32, .int 104, .int 101] [] (c_X12_spell t M0 (p := 0) (by decide) 116 97 107 101 115 32 104 101) m_X12_spell q12_6 xo_M rfl (by omega) (Nat.le_of_ble_eq_true rfl) dX12_init_148 rfl (k_U ?_)
  have S1 := sI_s S0 (p := 0) rfl (x1 := 116) (x2 := 97) (x3 := 107) (x4 := 101) (x5 := 115) (x6 := 32) (x7 := 104) (x8 := 101) rfl rfl rfl rfl rfl rfl rfl rfl
  generalize mu (mu (mu (mu (mu (mu (mu (mu M0 1 0 116) 1 (0 + 1) 97) 1 (0 + 2) 107) 1 (0 + 3) 101) 1 (0 + 4) 115) 1 (0 + 5) 32) 1 (0 + 6) 104) 1 (0 + 7) 101 = M1 at S1 ⊢
  refine x_aload_n (pc := 151) C 0 dX12_init_151 rfl ?_
  refine x_bipush (pc := 152) (v := nI 8) C dX12_init_152 (by decide) ?_
  refine x_bipush (pc := 154) (v := 114) C dX12_init_154 rfl ?_
  refine x_bipush (pc := 156) (v := 101) C dX12_init_156 rfl ?_
  refine x_bipush (pc := 158) (v := 32) C dX12_init_158 rfl ?_
  refine x_bipush (pc := 160) (v := 60) C dX12_init_160 rfl ?_
  refine x_bipush (pc := 162) (v := 32) C dX12_init_162 rfl ?_
  refine x_bipush (pc := 164) (v := 116) C dX12_init_164 rfl ?_
  refine x_bipush (pc := 166) (v := 104) C dX12_init_166 rfl ?_
  refine x_bipush (pc := 168) (v := 101) C dX12_init_168 rfl ?_
  refine x_callV (pc := 170) C E [.int (nI 8), .int 114, .int 101, .int 32, .int 60, .int 32, .int 116, .int 104, .int 101] [] (c_X12_spell t M1 (p := 8) (by decide) 114 101 32 60 32 116 104 101) m_X12_spell q12_6 xo_M rfl (by omega) (Nat.le_of_ble_eq_true rfl) dX12_init_170 rfl (k_U ?_)
  have S2 := sI_s S1 (p := 8) rfl (x1 := 114) (x2 := 101) (x3 := 32) (x4 := 60) (x5 := 32) (x6 := 116) (x7 := 104) (x8 := 101) rfl rfl rfl rfl rfl rfl rfl rfl
  generalize mu (mu (mu (mu (mu (mu (mu (mu M1 1 8 114) 1 (8 + 1) 101) 1 (8 + 2) 32) 1 (8 + 3) 60) 1 (8 + 4) 32) 1 (8 + 5) 116) 1 (8 + 6) 104) 1 (8 + 7) 101 = M2 at S2 ⊢
  refine x_aload_n (pc := 173) C 0 dX12_init_173 rfl ?_
  refine x_bipush (pc := 174) (v := nI 16) C dX12_init_174 (by decide) ?_
  refine x_bipush (pc := 176) (v := 114) C dX12_init_176 rfl ?_
  refine x_bipush (pc := 178) (v := 101) C dX12_init_178 rfl ?_
  refine x_bipush (pc := 180) (v := 32) C dX12_init_180 rfl ?_
  refine x_bipush (pc := 182) (v := 59) C dX12_init_182 rfl ?_
  refine x_bipush (pc := 184) (v := 32) C dX12_init_184 rfl ?_
  refine x_bipush (pc := 186) (v := 103) C dX12_init_186 rfl ?_
  refine x_bipush (pc := 188) (v := 111) C dX12_init_188 rfl ?_
  refine x_bipush (pc := 190) (v := 101) C dX12_init_190 rfl ?_
  refine x_callV (pc := 192) C E [.int (nI 16), .int 114, .int 101, .int 32, .int 59, .int 32, .int 103, .int 111, .int 101] [] (c_X12_spell t M2 (p := 16) (by decide) 114 101 32 59 32 103 111 101) m_X12_spell q12_6 xo_M rfl (by omega) (Nat.le_of_ble_eq_true rfl) dX12_init_192 rfl (k_U ?_)
  have S3 := sI_s S2 (p := 16) rfl (x1 := 114) (x2 := 101) (x3 := 32) (x4 := 59) (x5 := 32) (x6 := 103) (x7 := 111) (x8 := 101) rfl rfl rfl rfl rfl rfl rfl rfl
  generalize mu (mu (mu (mu (mu (mu (mu (mu M2 1 16 114) 1 (16 + 1) 101) 1 (16 + 2) 32) 1 (16 + 3) 59) 1 (16 + 4) 32) 1 (16 + 5) 103) 1 (16 + 6) 111) 1 (16 + 7) 101 = M3 at S3 ⊢
  refine x_aload_n (pc := 195) C 0 dX12_init_195 rfl ?_
  refine x_bipush (pc := 196) (v := nI 24) C dX12_init_196 (by decide) ?_
  refine x_bipush (pc := 198) (v := 115) C dX12_init_198 rfl ?_
  refine x_bipush (pc := 200) (v := 32) C dX12_init_200 rfl ?_
  refine x_bipush (pc := 202) (v := 53) C dX12_init_202 rfl ?_
  refine x_bipush (pc := 204) (v := 32) C dX12_init_204 rfl ?_
  refine x_bipush (pc := 206) (v := 59) C dX12_init_206 rfl ?_
  refine x_bipush (pc := 208) (v := 32) C dX12_init_208 rfl ?_
  refine x_bipush (pc := 210) (v := 119) C dX12_init_210 rfl ?_
  refine x_bipush (pc := 212) (v := 111) C dX12_init_212 rfl ?_
  refine x_callV (pc := 214) C E [.int (nI 24), .int 115, .int 32, .int 53, .int 32, .int 59, .int 32, .int 119, .int 111] [] (c_X12_spell t M3 (p := 24) (by decide) 115 32 53 32 59 32 119 111) m_X12_spell q12_6 xo_M rfl (by omega) (Nat.le_of_ble_eq_true rfl) dX12_init_214 rfl (k_U ?_)
  have S4 := sI_s S3 (p := 24) rfl (x1 := 115) (x2 := 32) (x3 := 53) (x4 := 32) (x5 := 59) (x6 := 32) (x7 := 119) (x8 := 111) rfl rfl rfl rfl rfl rfl rfl rfl
  generalize mu (mu (mu (mu (mu (mu (mu (mu M3 1 24 115) 1 (24 + 1) 32) 1 (24 + 2) 53) 1 (24 + 3) 32) 1 (24 + 4) 59) 1 (24 + 5) 32) 1 (24 + 6) 119) 1 (24 + 7) 111 = M4 at S4 ⊢
  refine x_aload_n (pc := 217) C 0 dX12_init_217 rfl ?_
  refine x_bipush (pc := 218) (v := nI 32) C dX12_init_218 (by decide) ?_
  refine x_bipush (pc := 220) (v := 114) C dX12_init_220 rfl ?_
  refine x_bipush (pc := 222) (v := 116) C dX12_init_222 rfl ?_
  refine x_bipush (pc := 224) (v := 104) C dX12_init_224 rfl ?_
  refine x_bipush (pc := 226) (v := 32) C dX12_init_226 rfl ?_
  refine x_bipush (pc := 228) (v := 49) C dX12_init_228 rfl ?_
  refine x_bipush (pc := 230) (v := 32) C dX12_init_230 rfl ?_
  refine x_bipush (pc := 232) (v := 43) C dX12_init_232 rfl ?_
  refine x_bipush (pc := 234) (v := 32) C dX12_init_234 rfl ?_
  refine x_callV (pc := 236) C E [.int (nI 32), .int 114, .int 116, .int 104, .int 32, .int 49, .int 32, .int 43, .int 32] [] (c_X12_spell t M4 (p := 32) (by decide) 114 116 104 32 49 32 43 32) m_X12_spell q12_6 xo_M rfl (by omega) (Nat.le_of_ble_eq_true rfl) dX12_init_236 rfl (k_U ?_)
  have S5 := sI_s S4 (p := 32) rfl (x1 := 114) (x2 := 116) (x3 := 104) (x4 := 32) (x5 := 49) (x6 := 32) (x7 := 43) (x8 := 32) rfl rfl rfl rfl rfl rfl rfl rfl
  generalize mu (mu (mu (mu (mu (mu (mu (mu M4 1 32 114) 1 (32 + 1) 116) 1 (32 + 2) 104) 1 (32 + 3) 32) 1 (32 + 4) 49) 1 (32 + 5) 32) 1 (32 + 6) 43) 1 (32 + 7) 32 = M5 at S5 ⊢
  refine x_aload_n (pc := 239) C 0 dX12_init_239 rfl ?_
  refine x_bipush (pc := 240) (v := nI 40) C dX12_init_240 (by decide) ?_
  refine x_bipush (pc := 242) (v := 102) C dX12_init_242 rfl ?_
  refine x_bipush (pc := 244) (v := 105) C dX12_init_244 rfl ?_
  refine x_bipush (pc := 246) (v := 108) C dX12_init_246 rfl ?_
  refine x_bipush (pc := 248) (v := 101) C dX12_init_248 rfl ?_
  refine x_bipush (pc := 250) (v := 32) C dX12_init_250 rfl ?_
  refine x_bipush (pc := 252) (v := 59) C dX12_init_252 rfl ?_
  refine x_bipush (pc := 254) (v := 32) C dX12_init_254 rfl ?_
  refine x_bipush (pc := 256) (v := 32) C dX12_init_256 rfl ?_
  refine x_callV (pc := 258) C E [.int (nI 40), .int 102, .int 105, .int 108, .int 101, .int 32, .int 59, .int 32, .int 32] [] (c_X12_spell t M5 (p := 40) (by decide) 102 105 108 101 32 59 32 32) m_X12_spell q12_6 xo_M rfl (by omega) (Nat.le_of_ble_eq_true rfl) dX12_init_258 rfl (k_U ?_)
  have S6 := sI_s S5 (p := 40) rfl (x1 := 102) (x2 := 105) (x3 := 108) (x4 := 101) (x5 := 32) (x6 := 59) (x7 := 32) (x8 := 32) rfl rfl rfl rfl rfl rfl rfl rfl
  generalize mu (mu (mu (mu (mu (mu (mu (mu M5 1 40 102) 1 (40 + 1) 105) 1 (40 + 2) 108) 1 (40 + 3) 101) 1 (40 + 4) 32) 1 (40 + 5) 59) 1 (40 + 6) 32) 1 (40 + 7) 32 = M6 at S6 ⊢
  refine x_aload_n (pc := 261) C 0 dX12_init_261 rfl ?_
  refine g_M_textSize (pc := 262) C E q11_13 dX12_init_262 ?_
  refine x_iconst (pc := 265) (v := nI 0) C dX12_init_265 (by decide) ?_
  refine x_bipush (pc := 266) (v := 48) C dX12_init_266 rfl ?_
  refine s_RtextSize (pc := 268) C E (by decide) dX12_init_268 ?_
  refine x_aload_n (pc := 269) C 0 dX12_init_269 rfl ?_
  refine x_iconst (pc := 270) (v := 1) C dX12_init_270 rfl ?_
  refine p_M_textCount (pc := 271) C E q12_5 dX12_init_271 ?_
  have h0 : ∀ k, k ≠ 3 → mu (mu M6 2 0 48) 0 3 1 0 k = mR 0 k := fun k hk => by rw [mu_k _ _ _ _ hk, mu_n _ _ _ _ (by decide), S6.2 0 (by decide)]
  have hRR : RR sF (mu (mu M6 2 0 48) 0 3 1) := rr_first (h0 7 (by decide)) (h0 4 (by decide)) (h0 12 (by decide)) (mu_s _ _ _ _) (h0 33 (by decide)) (h0 6 (by decide)) (by rw [mu_n _ _ _ _ (by decide), mu_s]) (fun k hk => by rw [mu_n _ _ _ _ (by decide), mu_n _ _ _ _ (by decide)]; exact S6.1 k hk) (fun s hs => by rw [mu_n _ _ _ _ (by decide), mu_n _ _ _ _ (by decide), S6.2 12 (by decide)]; rfl)
  subst ht
  exact z_ret (pc := 274) F1 (fun H h => ⟨_, hRR, h0 28 (by decide), h⟩) (Nat.le_refl _) (Nat.le_refl _) dX12_init_274
