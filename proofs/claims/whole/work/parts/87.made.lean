def fsF (z : Nat) : List Value := [.ref (z + 1), .ref (z + 2), .ref (z + 3), .ref (z + 4), .ref (z + 11), .ref (z + 37), .ref (z + 63), .ref (z + 89), .int 1, .int 0]
set_option maxRecDepth 100000 in
set_option maxHeartbeats 2000000 in
theorem b11_a {D : va_G} {tys : List (ClassId × FieldType)} {z : Nat} {X : State → Heap → Prop} {q : Nat → ClassId} (hq : yH X tys q) {P : Heap → Prop} {d : Nat} (hd : 9 ≤ d) {f : Nat → va_E} (hf : f 0 = .inr (11, [.null, .null, .null, .null, .null, .null, .null, .null, .int 0, .int 0])) (κ : XK) (F : yF κ RX11 cX11_init 2 d D tys z X P 145 2326 145 2326 0 0) (k : ∀ κ', yF κ' RX11 cX11_init 2 d D tys z X P 145 2326 56 1489 89 837 → XV κ' (YP D z 90 (fG q z (fsF z) 0 0 0 0)) 92 [(0, .ref (z + 0))] []) : XV κ (YP D z 1 f) 0 (lv_args 0 [.ref (z + 0)]) [] := by
  refine x_L (L' := [(0, .ref (z + 0))]) rfl ?_
  refine y_I (g := fG q z [.null, .null, .null, .null, .null, .null, .null, .null, .int 0, .int 0] 0 0 0 0) (fun x hx => by obtain rfl : x = 0 := (by omega); exact hf) ?_
  refine x_aload_n (pc := 0) F.1 0 dX11_init_0 rfl ?_
  refine y_obj (pc := 1) F.1 (by omega) q1_9 q1_10 q1_11 (by decide) dX11_init_1 ?_
  refine x_aload_n (pc := 4) F.1 0 dX11_init_4 rfl ?_
  refine x_bipush (pc := 5) (v := nI 6) F.1 dX11_init_5 (by decide) ?_
  refine z_anew (pc := 7) F 144 2320 1 6 (fun U H h => (hq.1 U H h).2.2.1.1) (fun U H h => (hq.1 U H h).2.2.1.2) q1_12 (by decide) (by omega) (by omega) (by omega) (by omega) dX11_init_7 (fun κF1 F1 => ?_)
  refine y_I (g := fG q z [.null, .null, .null, .null, .null, .null, .null, .null, .int 0, .int 0] 0 0 0 0) (fun x _ => fG_1 (qA_0 z _)) ?_
  refine y_putF (pc := 10) F1.1 F1.2.1 F1.2.2.1 (j := 0) (CN := RX11) (T := TX11) (ref := RX11) (ci := 11) (fs := [.null, .null, .null, .null, .null, .null, .null, .null, .int 0, .int 0]) 0 tyX11 tyX11_ok nmX11 (by decide) rfl rfl inlX11 (by decide) q1_13 rfl rfl rfl (ty := .array (.object "InTheOldOne$DiskKind")) (by decide +kernel) rfl rfl (Nat.le_of_ble_eq_true rfl) dX11_init_10 ?_
  refine y_I (g := fG q z [.ref (z + 1), .null, .null, .null, .null, .null, .null, .null, .int 0, .int 0] 0 0 0 0) (fun x _ => fG_0) ?_
  refine x_aload_n (pc := 13) F1.1 0 dX11_init_13 rfl ?_
  refine x_bipush (pc := 14) (v := nI 6) F1.1 dX11_init_14 (by decide) ?_
  refine z_anew (pc := 16) F1 143 2314 2 12 (fun U H h => (hq.1 U H h).2.2.2.1.1) (fun U H h => (hq.1 U H h).2.2.2.1.2) q1_14 (by decide) (by omega) (by omega) (by omega) (by omega) dX11_init_16 (fun κF2 F2 => ?_)
  refine y_I (g := fG q z [.ref (z + 1), .null, .null, .null, .null, .null, .null, .null, .int 0, .int 0] 0 0 0 0) (fun x _ => fG_2 (qA_0 z _)) ?_
  refine y_putF (pc := 19) F2.1 F2.2.1 F2.2.2.1 (j := 0) (CN := RX11) (T := TX11) (ref := RX11) (ci := 11) (fs := [.ref (z + 1), .null, .null, .null, .null, .null, .null, .null, .int 0, .int 0]) 1 tyX11 tyX11_ok nmX11 (by decide) rfl rfl inlX11 (by decide) q1_15 rfl rfl rfl (ty := .array (.object "InTheOldOne$Rule")) (by decide +kernel) rfl rfl (Nat.le_of_ble_eq_true rfl) dX11_init_19 ?_
  refine y_I (g := fG q z [.ref (z + 1), .ref (z + 2), .null, .null, .null, .null, .null, .null, .int 0, .int 0] 0 0 0 0) (fun x _ => fG_0) ?_
  refine x_aload_n (pc := 22) F2.1 0 dX11_init_22 rfl ?_
  refine x_iconst (pc := 23) (v := nI 4) F2.1 dX11_init_23 (by decide) ?_
  refine z_anew (pc := 24) F2 142 2310 3 16 (fun U H h => (hq.1 U H h).2.2.2.2.1.1) (fun U H h => (hq.1 U H h).2.2.2.2.1.2) q1_16 (by decide) (by omega) (by omega) (by omega) (by omega) dX11_init_24 (fun κF3 F3 => ?_)
  refine y_I (g := fG q z [.ref (z + 1), .ref (z + 2), .null, .null, .null, .null, .null, .null, .int 0, .int 0] 0 0 0 0) (fun x _ => fG_3 (qA_0 z _)) ?_
  refine y_putF (pc := 27) F3.1 F3.2.1 F3.2.2.1 (j := 0) (CN := RX11) (T := TX11) (ref := RX11) (ci := 11) (fs := [.ref (z + 1), .ref (z + 2), .null, .null, .null, .null, .null, .null, .int 0, .int 0]) 2 tyX11 tyX11_ok nmX11 (by decide) rfl rfl inlX11 (by decide) q1_17 rfl rfl rfl (ty := .array (.object "InTheOldOne$Sheet")) (by decide +kernel) rfl rfl (Nat.le_of_ble_eq_true rfl) dX11_init_27 ?_
  refine y_I (g := fG q z [.ref (z + 1), .ref (z + 2), .ref (z + 3), .null, .null, .null, .null, .null, .int 0, .int 0] 0 0 0 0) (fun x _ => fG_0) ?_
  refine x_aload_n (pc := 30) F3.1 0 dX11_init_30 rfl ?_
  refine z_new (pc := 31) F3 (CN := RX9) 141 2303 4 23 (by omega) (by omega) (by omega) (by omega) inlX9 tyX9 tyX9_ok (ci := 9) rfl q1_18 q1_19 q1_20 (fs := [.null, .null, .int 0, .int 0, .int 0, .int 0, .int 0]) bX9 dX11_init_31 (fun κF4 F4 => ?_)
  refine x_dup (pc := 34) F4.1 dX11_init_34 rfl ?_
  refine z_callN (pc := 35) F4 135 1936 10 390 [] [.ref (z + 4), .ref (z + 0)] (c_X9_init (fun U H h => (hq.1 U H h).1) (by decide) fS_s) mi_X9 (host := RX11) (List.mem_of_getElem? (i := 0) rfl) rfl (by omega) (by omega) (by omega) (by omega) (by omega) (Nat.le_of_ble_eq_true rfl) dX11_init_35 rfl (fun κF5 F5 => ?_)
  refine y_I (g := fG q z [.ref (z + 1), .ref (z + 2), .ref (z + 3), .null, .null, .null, .null, .null, .int 0, .int 0] 0 0 0 0) (fun x hx => by
    by_cases h : x < 4
    · rw [fT_o (K := 4) h, fS_n (by omega)]
    · rw [fT_i (K := 4) (by omega) (by omega), fG_z (by omega) (by omega)]; unfold fZ; rw [if_pos (by omega)]) ?_
  refine y_putF (pc := 38) F5.1 F5.2.1 F5.2.2.1 (j := 0) (CN := RX11) (T := TX11) (ref := RX11) (ci := 11) (fs := [.ref (z + 1), .ref (z + 2), .ref (z + 3), .null, .null, .null, .null, .null, .int 0, .int 0]) 3 tyX11 tyX11_ok nmX11 (by decide) rfl rfl inlX11 (by decide) q1_21 rfl rfl rfl (ty := .object "InTheOldOne$Tape") (by decide +kernel) rfl rfl (Nat.le_of_ble_eq_true rfl) dX11_init_38 ?_
  refine y_I (g := fG q z [.ref (z + 1), .ref (z + 2), .ref (z + 3), .ref (z + 4), .null, .null, .null, .null, .int 0, .int 0] 0 0 0 0) (fun x _ => fG_0) ?_
  refine x_aload_n (pc := 41) F5.1 0 dX11_init_41 rfl ?_
  refine z_new (pc := 42) F5 (CN := RX10) 134 1932 11 394 (by omega) (by omega) (by omega) (by omega) inlX10 tyX10 tyX10_ok (ci := 10) rfl q1_22 q1_23 q2_0 (fs := [.int 0, .int 0, .int 0, .null]) bX10 dX11_init_42 (fun κF6 F6 => ?_)
  refine x_dup (pc := 45) F6.1 dX11_init_45 rfl ?_
  refine z_call (pc := 46) F6 109 1788 36 538 [] [.ref (z + 11), .ref (z + 0)] (c_X10_init (fun U H h => (hq.1 U H h).1) (fun U H h => (hq.1 U H h).2.1.1) (fun U H h => (hq.1 U H h).2.1.2) (fun U H h => (hq.1 U H h).2.2.2.2.2.1) hq.2.1 (by decide) fS_s) mi_X10 q3_22 rfl (by omega) (by omega) (by omega) (by omega) (by omega) (Nat.le_of_ble_eq_true rfl) dX11_init_46 rfl (fun κF7 F7 => ?_)
  refine y_I (g := fG q z [.ref (z + 1), .ref (z + 2), .ref (z + 3), .ref (z + 4), .null, .null, .null, .null, .int 0, .int 0] 0 0 0 0) (fun x hx => by
    by_cases h : x < 11
    · rw [fW_o (K := 11) h, fS_n (by omega)]
    · rw [fW_i (K := 11) (by omega), fG_z (by omega) (by omega)]; unfold fZ; rw [if_neg (by omega), if_pos (by omega)]) ?_
  refine y_putF (pc := 49) F7.1 F7.2.1 F7.2.2.1 (j := 0) (CN := RX11) (T := TX11) (ref := RX11) (ci := 11) (fs := [.ref (z + 1), .ref (z + 2), .ref (z + 3), .ref (z + 4), .null, .null, .null, .null, .int 0, .int 0]) 4 tyX11 tyX11_ok nmX11 (by decide) rfl rfl inlX11 (by decide) q2_1 rfl rfl rfl (ty := .object "InTheOldOne$World") (by decide +kernel) rfl rfl (Nat.le_of_ble_eq_true rfl) dX11_init_49 ?_
  refine y_I (g := fG q z [.ref (z + 1), .ref (z + 2), .ref (z + 3), .ref (z + 4), .ref (z + 11), .null, .null, .null, .int 0, .int 0] 0 0 0 0) (fun x _ => fG_0) ?_
  refine x_aload_n (pc := 52) F7.1 0 dX11_init_52 rfl ?_
  refine z_new (pc := 53) F7 (CN := RX10) 108 1784 37 542 (by omega) (by omega) (by omega) (by omega) inlX10 tyX10 tyX10_ok (ci := 10) rfl q1_22 q1_23 q2_0 (fs := [.int 0, .int 0, .int 0, .null]) bX10 dX11_init_53 (fun κF8 F8 => ?_)
  refine x_dup (pc := 56) F8.1 dX11_init_56 rfl ?_
  refine z_call (pc := 57) F8 83 1640 62 686 [] [.ref (z + 37), .ref (z + 0)] (c_X10_init (fun U H h => (hq.1 U H h).1) (fun U H h => (hq.1 U H h).2.1.1) (fun U H h => (hq.1 U H h).2.1.2) (fun U H h => (hq.1 U H h).2.2.2.2.2.1) hq.2.1 (by decide) fS_s) mi_X10 q3_22 rfl (by omega) (by omega) (by omega) (by omega) (by omega) (Nat.le_of_ble_eq_true rfl) dX11_init_57 rfl (fun κF9 F9 => ?_)
  refine y_I (g := fG q z [.ref (z + 1), .ref (z + 2), .ref (z + 3), .ref (z + 4), .ref (z + 11), .null, .null, .null, .int 0, .int 0] 0 0 0 0) (fun x hx => by
    by_cases h : x < 37
    · rw [fW_o (K := 37) h, fS_n (by omega)]
    · rw [fW_i (K := 37) (by omega), fG_z (by omega) (by omega)]; unfold fZ; rw [if_neg (by omega), if_neg (by omega), if_pos (by omega)]) ?_
  refine y_putF (pc := 60) F9.1 F9.2.1 F9.2.2.1 (j := 0) (CN := RX11) (T := TX11) (ref := RX11) (ci := 11) (fs := [.ref (z + 1), .ref (z + 2), .ref (z + 3), .ref (z + 4), .ref (z + 11), .null, .null, .null, .int 0, .int 0]) 5 tyX11 tyX11_ok nmX11 (by decide) rfl rfl inlX11 (by decide) q2_2 rfl rfl rfl (ty := .object "InTheOldOne$World") (by decide +kernel) rfl rfl (Nat.le_of_ble_eq_true rfl) dX11_init_60 ?_
  refine y_I (g := fG q z [.ref (z + 1), .ref (z + 2), .ref (z + 3), .ref (z + 4), .ref (z + 11), .ref (z + 37), .null, .null, .int 0, .int 0] 0 0 0 0) (fun x _ => fG_0) ?_
  refine x_aload_n (pc := 63) F9.1 0 dX11_init_63 rfl ?_
  refine z_new (pc := 64) F9 (CN := RX10) 82 1636 63 690 (by omega) (by omega) (by omega) (by omega) inlX10 tyX10 tyX10_ok (ci := 10) rfl q1_22 q1_23 q2_0 (fs := [.int 0, .int 0, .int 0, .null]) bX10 dX11_init_64 (fun κF10 F10 => ?_)
  refine x_dup (pc := 67) F10.1 dX11_init_67 rfl ?_
  refine z_call (pc := 68) F10 57 1492 88 834 [] [.ref (z + 63), .ref (z + 0)] (c_X10_init (fun U H h => (hq.1 U H h).1) (fun U H h => (hq.1 U H h).2.1.1) (fun U H h => (hq.1 U H h).2.1.2) (fun U H h => (hq.1 U H h).2.2.2.2.2.1) hq.2.1 (by decide) fS_s) mi_X10 q3_22 rfl (by omega) (by omega) (by omega) (by omega) (by omega) (Nat.le_of_ble_eq_true rfl) dX11_init_68 rfl (fun κF11 F11 => ?_)
  refine y_I (g := fG q z [.ref (z + 1), .ref (z + 2), .ref (z + 3), .ref (z + 4), .ref (z + 11), .ref (z + 37), .null, .null, .int 0, .int 0] 0 0 0 0) (fun x hx => by
    by_cases h : x < 63
    · rw [fW_o (K := 63) h, fS_n (by omega)]
    · rw [fW_i (K := 63) (by omega), fG_z (by omega) (by omega)]; unfold fZ; rw [if_neg (by omega), if_neg (by omega), if_neg (by omega), if_pos (by omega)]) ?_
  refine y_putF (pc := 71) F11.1 F11.2.1 F11.2.2.1 (j := 0) (CN := RX11) (T := TX11) (ref := RX11) (ci := 11) (fs := [.ref (z + 1), .ref (z + 2), .ref (z + 3), .ref (z + 4), .ref (z + 11), .ref (z + 37), .null, .null, .int 0, .int 0]) 6 tyX11 tyX11_ok nmX11 (by decide) rfl rfl inlX11 (by decide) q2_3 rfl rfl rfl (ty := .object "InTheOldOne$World") (by decide +kernel) rfl rfl (Nat.le_of_ble_eq_true rfl) dX11_init_71 ?_
  refine y_I (g := fG q z [.ref (z + 1), .ref (z + 2), .ref (z + 3), .ref (z + 4), .ref (z + 11), .ref (z + 37), .ref (z + 63), .null, .int 0, .int 0] 0 0 0 0) (fun x _ => fG_0) ?_
  refine x_aload_n (pc := 74) F11.1 0 dX11_init_74 rfl ?_
  refine x_iconst (pc := 75) (v := nI 3) F11.1 dX11_init_75 (by decide) ?_
  refine z_anew (pc := 76) F11 56 1489 89 837 (fun U H h => (hq.1 U H h).2.1.1) (fun U H h => (hq.1 U H h).2.1.2) q2_4 (by decide) (by omega) (by omega) (by omega) (by omega) dX11_init_76 (fun κF12 F12 => ?_)
  refine y_I (g := fG q z [.ref (z + 1), .ref (z + 2), .ref (z + 3), .ref (z + 4), .ref (z + 11), .ref (z + 37), .ref (z + 63), .null, .int 0, .int 0] 0 0 0 0) (fun x _ => fG_9 (qA_0 z _)) ?_
  refine y_putF (pc := 79) F12.1 F12.2.1 F12.2.2.1 (j := 0) (CN := RX11) (T := TX11) (ref := RX11) (ci := 11) (fs := [.ref (z + 1), .ref (z + 2), .ref (z + 3), .ref (z + 4), .ref (z + 11), .ref (z + 37), .ref (z + 63), .null, .int 0, .int 0]) 7 tyX11 tyX11_ok nmX11 (by decide) rfl rfl inlX11 (by decide) q2_5 rfl rfl rfl (ty := .array (.object "InTheOldOne$Disk")) (by decide +kernel) rfl rfl (Nat.le_of_ble_eq_true rfl) dX11_init_79 ?_
  refine y_I (g := fG q z [.ref (z + 1), .ref (z + 2), .ref (z + 3), .ref (z + 4), .ref (z + 11), .ref (z + 37), .ref (z + 63), .ref (z + 89), .int 0, .int 0] 0 0 0 0) (fun x _ => fG_0) ?_
  refine x_aload_n (pc := 82) F12.1 0 dX11_init_82 rfl ?_
  refine x_iconst (pc := 83) (v := 1) F12.1 dX11_init_83 rfl ?_
  refine y_put (pc := 84) F12.1 F12.2.1 (j := 0) (CN := RX11) (T := TX11) (ref := RX11) (ci := 11) (fs := [.ref (z + 1), .ref (z + 2), .ref (z + 3), .ref (z + 4), .ref (z + 11), .ref (z + 37), .ref (z + 63), .ref (z + 89), .int 0, .int 0]) 8 tyX11 tyX11_ok nmX11 (by decide) rfl rfl inlX11 (by decide) q2_6 rfl rfl (ty := .int) (by decide +kernel) rfl rfl (Nat.le_of_ble_eq_true rfl) dX11_init_84 ?_
  refine y_I (g := fG q z [.ref (z + 1), .ref (z + 2), .ref (z + 3), .ref (z + 4), .ref (z + 11), .ref (z + 37), .ref (z + 63), .ref (z + 89), .int 1, .int 0] 0 0 0 0) (fun x _ => fG_0) ?_
  refine x_aload_n (pc := 87) F12.1 0 dX11_init_87 rfl ?_
  refine x_iconst (pc := 88) (v := 0) F12.1 dX11_init_88 rfl ?_
  refine y_put (pc := 89) F12.1 F12.2.1 (j := 0) (CN := RX11) (T := TX11) (ref := RX11) (ci := 11) (fs := [.ref (z + 1), .ref (z + 2), .ref (z + 3), .ref (z + 4), .ref (z + 11), .ref (z + 37), .ref (z + 63), .ref (z + 89), .int 1, .int 0]) 9 tyX11 tyX11_ok nmX11 (by decide) rfl rfl inlX11 (by decide) q2_7 rfl rfl (ty := .boolean) (by decide +kernel) rfl rfl (Nat.le_of_ble_eq_true rfl) dX11_init_89 ?_
  refine y_I (g := fG q z [.ref (z + 1), .ref (z + 2), .ref (z + 3), .ref (z + 4), .ref (z + 11), .ref (z + 37), .ref (z + 63), .ref (z + 89), .int 1, .int 0] 0 0 0 0) (fun x _ => fG_0) ?_
  exact k _ F12
