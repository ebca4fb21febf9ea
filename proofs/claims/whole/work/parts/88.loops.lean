set_option maxRecDepth 100000 in
set_option maxHeartbeats 2000000 in
theorem b11_k {D : va_G} {tys : List (ClassId × FieldType)} {z : Nat} {X : State → Heap → Prop} {q : Nat → ClassId} (hq : yH X tys q) {P : Heap → Prop} {d : Nat} (hd : 9 ≤ d) (κ : XK) (F : yF κ RX11 cX11_init 2 d D tys z X P 145 2326 56 1489 89 837) (k : ∀ κ', yF κ' RX11 cX11_init 2 d D tys z X P 145 2326 50 1483 95 843 → XV κ' (YP D z 96 (fG q z (fsF z) 6 0 0 0)) 176 [(0, .ref (z + 0))] []) : XV κ (YP D z 90 (fG q z (fsF z) 0 0 0 0)) 92 [(0, .ref (z + 0))] [] := by
  refine x_aload_n (pc := 92) F.1 0 dX11_init_92 rfl ?_
  refine z_get (pc := 93) F (j := 0) (CN := RX11) (T := TX11) (ci := 11) (fs := fsF z) 0 (by decide) rfl rfl inlX11 (by decide) q1_13 rfl rfl dX11_init_93 ?_
  refine x_iconst (pc := 96) (v := nI 0) F.1 dX11_init_96 (by decide) ?_
  refine z_new (pc := 97) F (CN := RX3) 55 1488 90 838 (by omega) (by omega) (by omega) (by omega) inlX3 tyX3 tyX3_ok (ci := 3) rfl q1_12 q2_8 q2_9 (fs := [.int 0]) bX3 dX11_init_97 (fun κF1 F1 => ?_)
  refine x_dup (pc := 100) F1.1 dX11_init_100 rfl ?_
  refine x_iconst (pc := 101) (v := 0) F1.1 dX11_init_101 rfl ?_
  refine z_call (pc := 102) F1 55 1488 90 838 [.int 0] [.ref (z + 90), .int (nI 0), .ref (z + 1)] (c_X3_init3 0 (by decide) fS_s) mi_X3 q4_16 rfl (by omega) (by omega) (by omega) (by omega) (by omega) (Nat.le_of_ble_eq_true rfl) dX11_init_102 rfl (fun κF2 F2 => ?_)
  refine y_I (g := (fG q z (fsF z) 0 0 0 0)) (fun x hx => by
    by_cases h : x = 90
    · subst h; rfl
    · rw [fS_n h, fS_n h]) ?_
  refine y_astq (pc := 105) F2.1 F2.2.1 (j := 1) (v := 90) (i := 0) (cA := q 3) (N := 6) (fq := qA z (fun q => 90 + q) 0) (ci := 3) (fs := [.int (nI 0)]) (by decide) rfl hq.2.2.1 (by decide) rfl rfl (yX_as F2.2.2.2.2.1 (fun U H h => (hq.1 U H h).2.2.2.2.2.2.2.2.1)) (by decide) (by decide) dX11_init_105 ?_
  refine y_I (g := (fG q z (fsF z) 1 0 0 0)) (fun x _ => fG_1 (qA_up z (fun q => 90 + q) 0)) ?_
  refine x_aload_n (pc := 106) F2.1 0 dX11_init_106 rfl ?_
  refine z_get (pc := 107) F2 (j := 0) (CN := RX11) (T := TX11) (ci := 11) (fs := fsF z) 0 (by decide) rfl rfl inlX11 (by decide) q1_13 rfl rfl dX11_init_107 ?_
  refine x_iconst (pc := 110) (v := nI 1) F2.1 dX11_init_110 (by decide) ?_
  refine z_new (pc := 111) F2 (CN := RX0) 54 1487 91 839 (by omega) (by omega) (by omega) (by omega) inlX0 tyX0 tyX0_ok (ci := 0) rfl q48_9 q2_11 q2_12 (fs := [.int 0]) bX0 dX11_init_111 (fun κF3 F3 => ?_)
  refine x_dup (pc := 114) F3.1 dX11_init_114 rfl ?_
  refine x_iconst (pc := 115) (v := 1) F3.1 dX11_init_115 rfl ?_
  refine z_call (pc := 116) F3 54 1487 91 839 [.int 1] [.ref (z + 91), .int (nI 1), .ref (z + 1)] (c_X0_init_0 1 (by decide) fS_s) mi_X0 q4_17 rfl (by omega) (by omega) (by omega) (by omega) (by omega) (Nat.le_of_ble_eq_true rfl) dX11_init_116 rfl (fun κF4 F4 => ?_)
  refine y_I (g := (fG q z (fsF z) 1 0 0 0)) (fun x hx => by
    by_cases h : x = 91
    · subst h; rfl
    · rw [fS_n h, fS_n h]) ?_
  refine y_astq (pc := 119) F4.1 F4.2.1 (j := 1) (v := 91) (i := 1) (cA := q 3) (N := 6) (fq := qA z (fun q => 90 + q) 1) (ci := 0) (fs := [.int (nI 1)]) (by decide) rfl hq.2.2.1 (by decide) rfl rfl (yX_as F4.2.2.2.2.1 (fun U H h => (hq.1 U H h).2.2.2.2.2.2.2.2.2.1)) (by decide) (by decide) dX11_init_119 ?_
  refine y_I (g := (fG q z (fsF z) 2 0 0 0)) (fun x _ => fG_1 (qA_up z (fun q => 90 + q) 1)) ?_
  refine x_aload_n (pc := 120) F4.1 0 dX11_init_120 rfl ?_
  refine z_get (pc := 121) F4 (j := 0) (CN := RX11) (T := TX11) (ci := 11) (fs := fsF z) 0 (by decide) rfl rfl inlX11 (by decide) q1_13 rfl rfl dX11_init_121 ?_
  refine x_iconst (pc := 124) (v := nI 2) F4.1 dX11_init_124 (by decide) ?_
  refine z_new (pc := 125) F4 (CN := RX1) 53 1486 92 840 (by omega) (by omega) (by omega) (by omega) inlX1 tyX1 tyX1_ok (ci := 1) rfl q48_10 q2_14 q2_15 (fs := [.int 0]) bX1 dX11_init_125 (fun κF5 F5 => ?_)
  refine x_dup (pc := 128) F5.1 dX11_init_128 rfl ?_
  refine x_iconst (pc := 129) (v := 2) F5.1 dX11_init_129 rfl ?_
  refine z_call (pc := 130) F5 53 1486 92 840 [.int 2] [.ref (z + 92), .int (nI 2), .ref (z + 1)] (c_X1_init_1 2 (by decide) fS_s) mi_X1 q4_21 rfl (by omega) (by omega) (by omega) (by omega) (by omega) (Nat.le_of_ble_eq_true rfl) dX11_init_130 rfl (fun κF6 F6 => ?_)
  refine y_I (g := (fG q z (fsF z) 2 0 0 0)) (fun x hx => by
    by_cases h : x = 92
    · subst h; rfl
    · rw [fS_n h, fS_n h]) ?_
  refine y_astq (pc := 133) F6.1 F6.2.1 (j := 1) (v := 92) (i := 2) (cA := q 3) (N := 6) (fq := qA z (fun q => 90 + q) 2) (ci := 1) (fs := [.int (nI 2)]) (by decide) rfl hq.2.2.1 (by decide) rfl rfl (yX_as F6.2.2.2.2.1 (fun U H h => (hq.1 U H h).2.2.2.2.2.2.2.2.2.2.1)) (by decide) (by decide) dX11_init_133 ?_
  refine y_I (g := (fG q z (fsF z) 3 0 0 0)) (fun x _ => fG_1 (qA_up z (fun q => 90 + q) 2)) ?_
  refine x_aload_n (pc := 134) F6.1 0 dX11_init_134 rfl ?_
  refine z_get (pc := 135) F6 (j := 0) (CN := RX11) (T := TX11) (ci := 11) (fs := fsF z) 0 (by decide) rfl rfl inlX11 (by decide) q1_13 rfl rfl dX11_init_135 ?_
  refine x_iconst (pc := 138) (v := nI 3) F6.1 dX11_init_138 (by decide) ?_
  refine z_new (pc := 139) F6 (CN := RX4) 52 1485 93 841 (by omega) (by omega) (by omega) (by omega) inlX4 tyX4 tyX4_ok (ci := 4) rfl q48_11 q2_17 q2_18 (fs := [.int 0]) bX4 dX11_init_139 (fun κF7 F7 => ?_)
  refine x_dup (pc := 142) F7.1 dX11_init_142 rfl ?_
  refine x_iconst (pc := 143) (v := 3) F7.1 dX11_init_143 rfl ?_
  refine z_call (pc := 144) F7 52 1485 93 841 [.int 3] [.ref (z + 93), .int (nI 3), .ref (z + 1)] (c_X4_init_4 3 (by decide) fS_s) mi_X4 q5_1 rfl (by omega) (by omega) (by omega) (by omega) (by omega) (Nat.le_of_ble_eq_true rfl) dX11_init_144 rfl (fun κF8 F8 => ?_)
  refine y_I (g := (fG q z (fsF z) 3 0 0 0)) (fun x hx => by
    by_cases h : x = 93
    · subst h; rfl
    · rw [fS_n h, fS_n h]) ?_
  refine y_astq (pc := 147) F8.1 F8.2.1 (j := 1) (v := 93) (i := 3) (cA := q 3) (N := 6) (fq := qA z (fun q => 90 + q) 3) (ci := 4) (fs := [.int (nI 3)]) (by decide) rfl hq.2.2.1 (by decide) rfl rfl (yX_as F8.2.2.2.2.1 (fun U H h => (hq.1 U H h).2.2.2.2.2.2.2.2.2.2.2.1)) (by decide) (by decide) dX11_init_147 ?_
  refine y_I (g := (fG q z (fsF z) 4 0 0 0)) (fun x _ => fG_1 (qA_up z (fun q => 90 + q) 3)) ?_
  refine x_aload_n (pc := 148) F8.1 0 dX11_init_148 rfl ?_
  refine z_get (pc := 149) F8 (j := 0) (CN := RX11) (T := TX11) (ci := 11) (fs := fsF z) 0 (by decide) rfl rfl inlX11 (by decide) q1_13 rfl rfl dX11_init_149 ?_
  refine x_iconst (pc := 152) (v := nI 4) F8.1 dX11_init_152 (by decide) ?_
  refine z_new (pc := 153) F8 (CN := RX7) 51 1484 94 842 (by omega) (by omega) (by omega) (by omega) inlX7 tyX7 tyX7_ok (ci := 7) rfl q48_12 q2_20 q2_21 (fs := [.int 0]) bX7 dX11_init_153 (fun κF9 F9 => ?_)
  refine x_dup (pc := 156) F9.1 dX11_init_156 rfl ?_
  refine x_iconst (pc := 157) (v := 4) F9.1 dX11_init_157 rfl ?_
  refine z_call (pc := 158) F9 51 1484 94 842 [.int 4] [.ref (z + 94), .int (nI 4), .ref (z + 1)] (c_X7_init_7 4 (by decide) fS_s) mi_X7 q5_5 rfl (by omega) (by omega) (by omega) (by omega) (by omega) (Nat.le_of_ble_eq_true rfl) dX11_init_158 rfl (fun κF10 F10 => ?_)
  refine y_I (g := (fG q z (fsF z) 4 0 0 0)) (fun x hx => by
    by_cases h : x = 94
    · subst h; rfl
    · rw [fS_n h, fS_n h]) ?_
  refine y_astq (pc := 161) F10.1 F10.2.1 (j := 1) (v := 94) (i := 4) (cA := q 3) (N := 6) (fq := qA z (fun q => 90 + q) 4) (ci := 7) (fs := [.int (nI 4)]) (by decide) rfl hq.2.2.1 (by decide) rfl rfl (yX_as F10.2.2.2.2.1 (fun U H h => (hq.1 U H h).2.2.2.2.2.2.2.2.2.2.2.2.1)) (by decide) (by decide) dX11_init_161 ?_
  refine y_I (g := (fG q z (fsF z) 5 0 0 0)) (fun x _ => fG_1 (qA_up z (fun q => 90 + q) 4)) ?_
  refine x_aload_n (pc := 162) F10.1 0 dX11_init_162 rfl ?_
  refine z_get (pc := 163) F10 (j := 0) (CN := RX11) (T := TX11) (ci := 11) (fs := fsF z) 0 (by decide) rfl rfl inlX11 (by decide) q1_13 rfl rfl dX11_init_163 ?_
  refine x_iconst (pc := 166) (v := nI 5) F10.1 dX11_init_166 (by decide) ?_
  refine z_new (pc := 167) F10 (CN := RX5) 50 1483 95 843 (by omega) (by omega) (by omega) (by omega) inlX5 tyX5 tyX5_ok (ci := 5) rfl q48_13 q2_23 q3_0 (fs := [.int 0]) bX5 dX11_init_167 (fun κF11 F11 => ?_)
  refine x_dup (pc := 170) F11.1 dX11_init_170 rfl ?_
  refine x_iconst (pc := 171) (v := 5) F11.1 dX11_init_171 rfl ?_
  refine z_call (pc := 172) F11 50 1483 95 843 [.int 5] [.ref (z + 95), .int (nI 5), .ref (z + 1)] (c_X5_init_5 5 (by decide) fS_s) mi_X5 q5_9 rfl (by omega) (by omega) (by omega) (by omega) (by omega) (Nat.le_of_ble_eq_true rfl) dX11_init_172 rfl (fun κF12 F12 => ?_)
  refine y_I (g := (fG q z (fsF z) 5 0 0 0)) (fun x hx => by
    by_cases h : x = 95
    · subst h; rfl
    · rw [fS_n h, fS_n h]) ?_
  refine y_astq (pc := 175) F12.1 F12.2.1 (j := 1) (v := 95) (i := 5) (cA := q 3) (N := 6) (fq := qA z (fun q => 90 + q) 5) (ci := 5) (fs := [.int (nI 5)]) (by decide) rfl hq.2.2.1 (by decide) rfl rfl (yX_as F12.2.2.2.2.1 (fun U H h => (hq.1 U H h).2.2.2.2.2.2.2.2.2.2.2.2.2)) (by decide) (by decide) dX11_init_175 ?_
  refine y_I (g := (fG q z (fsF z) 6 0 0 0)) (fun x _ => fG_1 (qA_up z (fun q => 90 + q) 5)) ?_
  exact k _ F12
set_option maxRecDepth 100000 in
set_option maxHeartbeats 1000000 in
theorem b11_t {D : va_G} {tys : List (ClassId × FieldType)} {z : Nat} {X : State → Heap → Prop} {q : Nat → ClassId} (hq : yH X tys q) {P : Heap → Prop} {d : Nat} (hd : 9 ≤ d) (k : ∀ κ', yF κ' RX11 cX11_init 2 d D tys z X P 145 2326 20 241 125 2085 → XV κ' (YP D z 126 (fG q z (fsF z) 6 6 0 0)) 203 [(1, .int (nI 6)), (0, .ref (z + 0))] []) (m : Nat) : ∀ (i : Nat) (κ : XK), i + m = 6 → yF κ RX11 cX11_init 2 d D tys z X P 145 2326 (20 + 5 * m) (241 + 207 * m) (95 + 5 * i) (843 + 207 * i) → XV κ (YP D z (96 + 5 * i) (fG q z (fsF z) 6 i 0 0)) 178 [(1, .int (nI i)), (0, .ref (z + 0))] [] := by
  induction m with
  | zero =>
    intro i κ hi F
    obtain rfl : i = 6 := by omega
    refine x_iload_n (pc := 178) F.1 0 dX11_init_178 rfl ?_
    refine x_bipush (pc := 179) (v := 6) F.1 dX11_init_179 rfl ?_
    refine x_icmp_ge_t (pc := 181) F.1 203 dX11_init_181 (by decide) (by decide) ?_
    exact k _ F
  | succ m ih =>
    intro i κ hi F
    refine x_iload_n (pc := 178) F.1 0 dX11_init_178 rfl ?_
    refine x_bipush (pc := 179) (v := 6) F.1 dX11_init_179 rfl ?_
    refine x_icmp_ge_f (pc := 181) F.1 203 dX11_init_181 (by decide) (by rw [i_le, nI_toInt (by omega)]; show ¬ (6 : Int) ≤ _; omega) ?_
    refine x_aload_n (pc := 184) F.1 1 dX11_init_184 rfl ?_
    refine z_get (pc := 185) F (j := 0) (CN := RX11) (T := TX11) (ci := 11) (fs := fsF z) 1 (by omega) rfl rfl inlX11 (by decide) q1_15 rfl rfl dX11_init_185 ?_
    refine x_iload_n (pc := 188) F.1 0 dX11_init_188 rfl ?_
    refine z_new (pc := 189) F (CN := RX6) (24 + 5 * m) (442 + 207 * m) (96 + 5 * i) (849 + 207 * i) (by omega) (by omega) (by omega) (by omega) inlX6 tyX6 tyX6_ok (ci := 6) rfl q1_14 q3_1 q3_2 (fs := [.null, .null, .null, .null, .int 0, .int 0]) bX6 dX11_init_189 (fun κF1 F1 => ?_)
    refine x_dup (pc := 192) F1.1 dX11_init_192 rfl ?_
    refine z_callN (pc := 193) F1 (20 + 5 * m) (241 + 207 * m) (95 + 5 * (i + 1)) (843 + 207 * (i + 1)) [] [.ref (z + (96 + 5 * i)), .int (nI i), .ref (z + 2)] (c_X6_initU (fun U H h => (hq.1 U H h).1) (by omega) fS_s) mi_X6 (host := RX11) (List.mem_of_getElem? (i := 3) rfl) rfl (by omega) (by omega) (by omega) (by omega) (by omega) (Nat.le_of_ble_eq_true rfl) dX11_init_193 rfl (fun κF2 F2 => ?_)
    refine y_I (g := (fG q z (fsF z) 6 i 0 0)) (fun x hx => by
      by_cases h : x < (96 + 5 * i)
      · rw [fU_o (h2 := by omega) h, fS_n (by omega)]
      · rw [fU_i (K := 96 + 5 * i) (by omega) (by omega), fG_z (by omega) (by omega)]
        unfold fZ
        rw [if_neg (by omega), if_neg (by omega), if_neg (by omega), if_neg (by omega), if_neg (by omega), if_pos (by omega), show 96 + 5 * ((x - 96) / 5) = 96 + 5 * i by omega, show (x - 96) % 5 = x - (96 + 5 * i) by omega]) ?_
    refine y_astq (pc := 196) F2.1 F2.2.1 (j := 2) (v := (96 + 5 * i)) (i := i) (cA := q 4) (N := 6) (fq := qA z (fun q => 96 + 5 * q) i) (ci := 6) (fs := [.ref (z + (96 + 5 * i + 1)), .ref (z + (96 + 5 * i + 2)), .ref (z + (96 + 5 * i + 3)), .ref (z + (96 + 5 * i + 4)), .int 0, .int 0]) (by omega) rfl hq.2.2.2.1 (by omega) (by
      rw [fG_z (by omega) (by omega)]
      unfold fZ
      rw [if_neg (by omega), if_neg (by omega), if_neg (by omega), if_neg (by omega), if_neg (by omega), if_pos (by omega), show 96 + 5 * ((96 + 5 * i - 96) / 5) = 96 + 5 * i by omega, show (96 + 5 * i - 96) % 5 = 0 by omega]
      rfl) rfl (yX_as F2.2.2.2.2.1 (fun U H h => (hq.1 U H h).2.2.2.2.2.2.1)) (by omega) (by decide) dX11_init_196 ?_
    refine y_I (g := (fG q z (fsF z) 6 (i + 1) 0 0)) (fun x _ => fG_2 (qA_up z (fun q => 96 + 5 * q) i)) ?_
    refine x_iinc (pc := 197) (v := nI (i + 1)) F2.1 0 dX11_init_197 rfl (nI_1 _) (by decide) rfl ?_
    refine x_goto (pc := 200) F2.1 178 dX11_init_200 (by decide) ?_
    exact ih (i + 1) κF2 (by omega) F2
set_option maxRecDepth 100000 in
set_option maxHeartbeats 1000000 in
theorem b11_s {D : va_G} {tys : List (ClassId × FieldType)} {z : Nat} {X : State → Heap → Prop} {q : Nat → ClassId} (hq : yH X tys q) {P : Heap → Prop} {d : Nat} (hd : 9 ≤ d) (k : ∀ κ', yF κ' RX11 cX11_init 2 d D tys z X P 145 2326 12 69 133 2257 → XV κ' (YP D z 134 (fG q z (fsF z) 6 6 4 0)) 229 [(1, .int (nI 4)), (0, .ref (z + 0))] []) (m : Nat) : ∀ (i : Nat) (κ : XK), i + m = 4 → yF κ RX11 cX11_init 2 d D tys z X P 145 2326 (12 + 2 * m) (69 + 43 * m) (125 + 2 * i) (2085 + 43 * i) → XV κ (YP D z (126 + 2 * i) (fG q z (fsF z) 6 6 i 0)) 205 [(1, .int (nI i)), (0, .ref (z + 0))] [] := by
  induction m with
  | zero =>
    intro i κ hi F
    obtain rfl : i = 4 := by omega
    refine x_iload_n (pc := 205) F.1 0 dX11_init_205 rfl ?_
    refine x_iconst (pc := 206) (v := 4) F.1 dX11_init_206 rfl ?_
    refine x_icmp_ge_t (pc := 207) F.1 229 dX11_init_207 (by decide) (by decide) ?_
    exact k _ F
  | succ m ih =>
    intro i κ hi F
    refine x_iload_n (pc := 205) F.1 0 dX11_init_205 rfl ?_
    refine x_iconst (pc := 206) (v := 4) F.1 dX11_init_206 rfl ?_
    refine x_icmp_ge_f (pc := 207) F.1 229 dX11_init_207 (by decide) (by rw [i_le, nI_toInt (by omega)]; show ¬ (4 : Int) ≤ _; omega) ?_
    refine x_aload_n (pc := 210) F.1 1 dX11_init_210 rfl ?_
    refine z_get (pc := 211) F (j := 0) (CN := RX11) (T := TX11) (ci := 11) (fs := fsF z) 2 (by omega) rfl rfl inlX11 (by decide) q1_17 rfl rfl dX11_init_211 ?_
    refine x_iload_n (pc := 214) F.1 0 dX11_init_214 rfl ?_
    refine z_new (pc := 215) F (CN := RX8) (13 + 2 * m) (109 + 43 * m) (126 + 2 * i) (2088 + 43 * i) (by omega) (by omega) (by omega) (by omega) inlX8 tyX8 tyX8_ok (ci := 8) rfl q1_16 q3_3 q3_4 (fs := [.null, .int 0, .int 0]) bX8 dX11_init_215 (fun κF1 F1 => ?_)
    refine x_dup (pc := 218) F1.1 dX11_init_218 rfl ?_
    refine z_callN (pc := 219) F1 (12 + 2 * m) (69 + 43 * m) (125 + 2 * (i + 1)) (2085 + 43 * (i + 1)) [] [.ref (z + (126 + 2 * i)), .int (nI i), .ref (z + 3)] (c_X8_initH (fun U H h => (hq.1 U H h).1) (by omega) fS_s) mi_X8 (host := RX11) (List.mem_of_getElem? (i := 4) rfl) rfl (by omega) (by omega) (by omega) (by omega) (by omega) (Nat.le_of_ble_eq_true rfl) dX11_init_219 rfl (fun κF2 F2 => ?_)
    refine y_I (g := (fG q z (fsF z) 6 6 i 0)) (fun x hx => by
      by_cases h : x < (126 + 2 * i)
      · rw [fH_o h, fS_n (by omega)]
      · rw [fH_i (K := 126 + 2 * i) (by omega) (by omega), fG_z (by omega) (by omega)]
        unfold fZ
        rw [if_neg (by omega), if_neg (by omega), if_neg (by omega), if_neg (by omega), if_neg (by omega), if_neg (by omega), if_pos (by omega), show 126 + 2 * ((x - 126) / 2) = 126 + 2 * i by omega, show (x - 126) % 2 = x - (126 + 2 * i) by omega]) ?_
    refine y_astq (pc := 222) F2.1 F2.2.1 (j := 3) (v := (126 + 2 * i)) (i := i) (cA := q 5) (N := 4) (fq := qA z (fun q => 126 + 2 * q) i) (ci := 8) (fs := [.ref (z + (126 + 2 * i + 1)), .int (-1), .int 0]) (by omega) rfl hq.2.2.2.2 (by omega) (by
      rw [fG_z (by omega) (by omega)]
      unfold fZ
      rw [if_neg (by omega), if_neg (by omega), if_neg (by omega), if_neg (by omega), if_neg (by omega), if_neg (by omega), if_pos (by omega), show 126 + 2 * ((126 + 2 * i - 126) / 2) = 126 + 2 * i by omega, show (126 + 2 * i - 126) % 2 = 0 by omega]
      rfl) rfl (yX_as F2.2.2.2.2.1 (fun U H h => (hq.1 U H h).2.2.2.2.2.2.2.1)) (by omega) (by decide) dX11_init_222 ?_
    refine y_I (g := (fG q z (fsF z) 6 6 (i + 1) 0)) (fun x _ => fG_3 (qA_up z (fun q => 126 + 2 * q) i)) ?_
    refine x_iinc (pc := 223) (v := nI (i + 1)) F2.1 0 dX11_init_223 rfl (nI_1 _) (by decide) rfl ?_
    refine x_goto (pc := 226) F2.1 205 dX11_init_226 (by decide) ?_
    exact ih (i + 1) κF2 (by omega) F2
set_option maxRecDepth 100000 in
set_option maxHeartbeats 1000000 in
theorem b11_b {D : va_G} {tys : List (ClassId × FieldType)} {z : Nat} {X : State → Heap → Prop} {q : Nat → ClassId} (hq : yH X tys q) {P : Heap → Prop} {d : Nat} (hd : 9 ≤ d) (k : ∀ κ', yF κ' RX11 cX11_init 2 d D tys z X P 145 2326 0 0 145 2326 → XV κ' (YP D z 146 (fG q z (fsF z) 6 6 4 3)) 255 [(1, .int (nI 3)), (0, .ref (z + 0))] []) (m : Nat) : ∀ (i : Nat) (κ : XK), i + m = 3 → yF κ RX11 cX11_init 2 d D tys z X P 145 2326 (0 + 4 * m) (0 + 23 * m) (133 + 4 * i) (2257 + 23 * i) → XV κ (YP D z (134 + 4 * i) (fG q z (fsF z) 6 6 4 i)) 231 [(1, .int (nI i)), (0, .ref (z + 0))] [] := by
  induction m with
  | zero =>
    intro i κ hi F
    obtain rfl : i = 3 := by omega
    refine x_iload_n (pc := 231) F.1 0 dX11_init_231 rfl ?_
    refine x_iconst (pc := 232) (v := 3) F.1 dX11_init_232 rfl ?_
    refine x_icmp_ge_t (pc := 233) F.1 255 dX11_init_233 (by decide) (by decide) ?_
    exact k _ F
  | succ m ih =>
    intro i κ hi F
    refine x_iload_n (pc := 231) F.1 0 dX11_init_231 rfl ?_
    refine x_iconst (pc := 232) (v := 3) F.1 dX11_init_232 rfl ?_
    refine x_icmp_ge_f (pc := 233) F.1 255 dX11_init_233 (by decide) (by rw [i_le, nI_toInt (by omega)]; show ¬ (3 : Int) ≤ _; omega) ?_
    refine x_aload_n (pc := 236) F.1 1 dX11_init_236 rfl ?_
    refine z_get (pc := 237) F (j := 0) (CN := RX11) (T := TX11) (ci := 11) (fs := fsF z) 7 (by omega) rfl rfl inlX11 (by decide) q2_5 rfl rfl dX11_init_237 ?_
    refine x_iload_n (pc := 240) F.1 0 dX11_init_240 rfl ?_
    refine z_new (pc := 241) F (CN := RX2) (3 + 4 * m) (17 + 23 * m) (134 + 4 * i) (2263 + 23 * i) (by omega) (by omega) (by omega) (by omega) inlX2 tyX2 tyX2_ok (ci := 2) rfl q2_4 q3_5 q3_6 (fs := [.null, .int 0, .int 0, .int 0, .null, .null]) bX2 dX11_init_241 (fun κF1 F1 => ?_)
    refine x_dup (pc := 244) F1.1 dX11_init_244 rfl ?_
    refine z_callN (pc := 245) F1 (0 + 4 * m) (0 + 23 * m) (133 + 4 * (i + 1)) (2257 + 23 * (i + 1)) [] [.ref (z + (134 + 4 * i)), .int (nI i), .ref (z + 89)] (c_X2_init (fun U H h => (hq.1 U H h).1) (by omega) fS_s) mi_X2 (host := RX11) (List.mem_of_getElem? (i := 5) rfl) rfl (by omega) (by omega) (by omega) (by omega) (by omega) (Nat.le_of_ble_eq_true rfl) dX11_init_245 rfl (fun κF2 F2 => ?_)
    refine y_I (g := (fG q z (fsF z) 6 6 4 i)) (fun x hx => by
      by_cases h : x < (134 + 4 * i)
      · rw [fD_o h, fS_n (by omega)]
      · rw [fD_i (K := 134 + 4 * i) (by omega) (by omega), fG_z (by omega) (by omega)]
        unfold fZ
        rw [if_neg (by omega), if_neg (by omega), if_neg (by omega), if_neg (by omega), if_neg (by omega), if_neg (by omega), if_neg (by omega), show 134 + 4 * ((x - 134) / 4) = 134 + 4 * i by omega, show (x - 134) % 4 = x - (134 + 4 * i) by omega]) ?_
    refine y_astq (pc := 248) F2.1 F2.2.1 (j := 89) (v := (134 + 4 * i)) (i := i) (cA := q 2) (N := 3) (fq := qA z (fun q => 134 + 4 * q) i) (ci := 2) (fs := [.ref (z + (134 + 4 * i + 1)), .int 0, .int 0, .int 0, .ref (z + (134 + 4 * i + 2)), .ref (z + (134 + 4 * i + 3))]) (by omega) rfl hq.2.1 (by omega) (by
      rw [fG_z (by omega) (by omega)]
      unfold fZ
      rw [if_neg (by omega), if_neg (by omega), if_neg (by omega), if_neg (by omega), if_neg (by omega), if_neg (by omega), if_neg (by omega), show 134 + 4 * ((134 + 4 * i - 134) / 4) = 134 + 4 * i by omega, show (134 + 4 * i - 134) % 4 = 0 by omega]
      rfl) rfl (yX_as F2.2.2.2.2.1 (fun U H h => (hq.1 U H h).2.2.2.2.2.1)) (by omega) (by decide) dX11_init_248 ?_
    refine y_I (g := (fG q z (fsF z) 6 6 4 (i + 1))) (fun x _ => fG_9 (qA_up z (fun q => 134 + 4 * q) i)) ?_
    refine x_iinc (pc := 249) (v := nI (i + 1)) F2.1 0 dX11_init_249 rfl (nI_1 _) (by decide) rfl ?_
    refine x_goto (pc := 252) F2.1 231 dX11_init_252 (by decide) ?_
    exact ih (i + 1) κF2 (by omega) F2
