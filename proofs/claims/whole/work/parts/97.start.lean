theorem mi_X11 : xCM yX11_init cX11_init 2 0 := ⟨q1_7, q1_2, q1_8, rfl, by decide +kernel, by decide⟩
theorem mi_X12 : xCM yX12_init cX12_init 1 0 := ⟨q11_9, q1_5, q11_10, rfl, by decide +kernel, by decide⟩
theorem kA_Sc {κ : XK} {a b b0 N : Nat} {xs : Nat → Int32} (h : xSc κ b0 N xs) : xSc (kA κ a b) b0 N xs := by
  obtain ⟨p, l, e, R, s, m, args, below, meth, c, Q, A, nL, cells, slots⟩ := κ
  exact h
theorem xYE_up {κ : XK} {D : va_G} {tys : List (ClassId × FieldType)} {z z' : Nat} (h : xYE κ D tys z) (hz : z ≤ z') : xYE κ D tys z' := by
  obtain ⟨p, l, e, R, s, m, args, below, meth, c, Q, A, nL, cells, slots⟩ := κ
  exact ⟨h.1, fun q hq => h.2 q (Nat.le_trans hz hq)⟩
theorem yX_up {κ : XK} {X : State → Heap → Prop} {z z' : Nat} (h : yX κ z X) : yX κ z' X := by
  obtain ⟨p, l, e, R, s, m, args, below, meth, c, Q, A, nL, cells, slots⟩ := κ
  exact h
theorem tC_E2 (z : Nat) (q : Nat → ClassId) (D : va_G) (X : State → Heap → Prop) {κ : XK} (E : xYE κ D (tysC q) z) (hX : yX κ z X) : XE κ (wC (tC z q D X)) := by
  obtain ⟨p, l, e, R, s, m, args, below, meth, c, Q, A, nL, cells, slots⟩ := κ
  exact ⟨E.1, tC_I z q D X, fun x hx => E.2 x (tC_A z q D X hx).1, fun U H locs hvm hS => hX.1 U H locs hvm hS, hX.2⟩
theorem tR_E2 (z : Nat) (q : Nat → ClassId) (D : va_G) (X : State → Heap → Prop) {κ : XK} (E : xYE κ D (tysR q) z) (hX : yX κ z X) : XE κ (wR (tR z q D X)) := by
  obtain ⟨p, l, e, R, s, m, args, below, meth, c, Q, A, nL, cells, slots⟩ := κ
  exact ⟨E.1, tR_I z q D X, fun x hx => E.2 x (tR_A z q D X hx).1, fun U H locs hvm hS => hX.1 U H locs hvm hS, hX.2⟩
set_option maxRecDepth 100000 in
set_option maxHeartbeats 2000000 in
theorem lw_rows {κ : XK} {b N d z : Nat} {xs : Nat → Int32} {D : va_G} {q : Nat → ClassId} {v : Value} {q1 a1 q2 a2 : Nat} (C : XC κ RL cL_law 4 d) (hd : 90 ≤ d) (EC : xYE κ D (tysC q) z) (ER : xYE κ D (tysR q) z) (HX : yX κ z (xAll q v q1 a1 q2 a2)) (sc : xSc κ b N xs) (hN : N ≤ 3072) (hr : xRm κ 162 4376) (hv : v = .null ∨ ∃ z, v = .ref z) (hend : ∀ (I : Heap → Prop) (L : List (Nat × Value)), XV (kA (kA (kA (kA κ 1 10) 145 2326) 1 40) 15 2000) I 1199 L []) (f : Nat → va_E) : XV κ (fun H => YP D z 0 f H ∧ True) 0 (lv_args 0 [.ref b]) [] := by
  have hq : yH (xAll q v q1 a1 q2 a2) (wC (tC z q D (xAll q v q1 a1 q2 a2))).2.2.2.2.1 q := ⟨fun U H h => h.1, rfl, rfl, rfl, rfl⟩
  refine x_L (L' := [(0, .ref b)]) rfl ?_
  refine y_newJ (pc := 0) (J := fun _ => True) C EC (fun _ _ h _ => h) (CN := RX11) (T := TX11) (N := 10) (ci := 11) (xRm_le hr (by decide) (by decide)) inlX11 tyX11 tyX11_ok rfl q1_0 q1_1 q1_2 (fs := [.null, .null, .null, .null, .null, .null, .null, .null, .int 0, .int 0]) bX11 dL_law_0 ?_
  have C1 := kA_C (a := 1) (b := 10) C (xRm_le hr (by decide) (by decide))
  have R1 := kA_R (a := 1) (b := 10) (a' := 161) (b' := 4366) hr (by decide) (by decide)
  have EC1 := kA_E (a := 1) (b := 10) EC
  have ER1 := kA_E (a := 1) (b := 10) ER
  have HX1 := kA_X (a := 1) (b := 10) HX
  have sc1 := kA_Sc (a := 1) (b := 10) sc
  refine x_dup (pc := 3) C1 dL_law_3 rfl ?_
  refine z_callJ (pc := 4) (J := fun _ => True) C1 EC1 HX1 (fun _ _ h _ => h) [] [.ref (z + 0)] (c_X11_init z q D (xAll q v q1 a1 q2 a2) hq (fun U H h => h.2.2.2.1) (fun U H h => h.2.2.2.2) hv fS_s) mi_X11 q1_6 rfl (by omega) (xRm_le R1 (by decide) (by decide)) (Nat.le_of_ble_eq_true rfl) dL_law_4 rfl ?_
  have C2 := kA_C (a := 145) (b := 2326) C1 (xRm_le R1 (by decide) (by decide))
  have R2 := kA_R (a := 145) (b := 2326) (a' := 16) (b' := 2040) R1 (by decide) (by decide)
  have EC2 := kA_E (a := 145) (b := 2326) EC1
  have ER2 := kA_E (a := 145) (b := 2326) ER1
  have HX2 := kA_X (a := 145) (b := 2326) HX1
  have sc2 := kA_Sc (a := 145) (b := 2326) sc1
  refine x_astore_n (pc := 7) C2 dL_law_7 (by decide) rfl ?_
  refine x_I (I' := fun H => ∃ M, RC sF M ∧ xP (wC (tC z q D (xAll q v q1 a1 q2 a2))) M H) (fun H h => h.1) ?_
  refine x_ex (fun M => ?_)
  refine x_pr (a := RC sF M) (fun H h => h.1) (fun hRC => ?_)
  refine x_sz (fun z' => ?_)
  refine x_pr (a := z + 146 ≤ z') (fun H h => by
    have hlt := (h.1.2 124 _ (xl_get (w := wC (tC z q D (xAll q v q1 a1 q2 a2))) (M := M) (n := 124) (show 124 < 146 by decide))).lt
    have hlt2 : z + 145 < H.size := hlt
    have := h.2
    omega) (fun hz => ?_)
  refine x_I (I' := fun H => YP D z' 0 f H ∧ xP (wC (tC z q D (xAll q v q1 a1 q2 a2))) M H) (fun H h => ⟨⟨h.2, fun j hj => absurd hj (Nat.not_lt_zero _)⟩, h.1.2⟩) ?_
  have hJ : yJ z' (xP (wC (tC z q D (xAll q v q1 a1 q2 a2))) M) := yJ_P (fun x hx => by
    have := (tC_A z q D (xAll q v q1 a1 q2 a2) hx).2
    omega)
  have ER2 := xYE_up (z' := z') ER2 (by omega)
  have HX2' := yX_up (z' := z') HX2
  refine y_newJ (pc := 8) C2 ER2 hJ (CN := RX12) (T := TX12) (N := 40) (ci := 12) (xRm_le R2 (by decide) (by decide)) inlX12 tyX12 tyX12_ok rfl q1_3 q1_4 q1_5 (fs := [.int 0, .null, .null, .int 0, .int 0, .null, .int 0, .int 0, .null, .null, .null, .null, .int 0, .int 0, .int 0, .int 0, .int 0, .int 0, .int 0, .int 0, .int 0, .int 0, .int 0, .int 0, .long 0, .int 0, .int 0, .int 0, .int 0, .null, .null, .null, .null, .int 0, .int 0, .int 0, .null, .null, .null, .null]) bX12 dL_law_8 ?_
  have C3 := kA_C (a := 1) (b := 40) C2 (xRm_le R2 (by decide) (by decide))
  have R3 := kA_R (a := 1) (b := 40) (a' := 15) (b' := 2000) R2 (by decide) (by decide)
  have EC3 := kA_E (a := 1) (b := 40) EC2
  have ER3 := kA_E (a := 1) (b := 40) ER2
  have HX3 := kA_X (a := 1) (b := 40) HX2
  have HX3' := kA_X (a := 1) (b := 40) HX2'
  have sc3 := kA_Sc (a := 1) (b := 40) sc2
  refine x_dup (pc := 11) C3 dL_law_11 rfl ?_
  refine z_callJ (pc := 12) C3 ER3 HX3' hJ [] [.ref (z' + 0)] (c_X12_init z' q D (xAll q v q1 a1 q2 a2) (fun U H h => h.1.1) (fun U H h => h.2.1) fS_s) mi_X12 q11_8 rfl (by omega) (xRm_le R3 (by decide) (by decide)) (Nat.le_of_ble_eq_true rfl) dL_law_12 rfl ?_
  have C4 := kA_C (a := 15) (b := 2000) C3 (xRm_le R3 (by decide) (by decide))
  have EC4 := kA_E (a := 15) (b := 2000) EC3
  have ER4 := kA_E (a := 15) (b := 2000) ER3
  have HX4 := kA_X (a := 15) (b := 2000) HX3
  have HX4' := kA_X (a := 15) (b := 2000) HX3'
  have sc4 := kA_Sc (a := 15) (b := 2000) sc3
  refine x_astore_n (pc := 15) C4 dL_law_15 (by decide) rfl ?_
  refine x_iconst (pc := 16) (v := nI 0) C4 dL_law_16 (by decide) ?_
  refine x_istore_n (pc := 17) C4 dL_law_17 (by decide) rfl ?_
  refine x_I (I' := LIn (tC z q D (xAll q v q1 a1 q2 a2)) (tR z' q D (xAll q v q1 a1 q2 a2)) sF) (fun H h => by
    obtain ⟨⟨M', g1, g2, g3⟩, g4⟩ := h
    exact ⟨M, M', g4, g3, hRC, g1, g2, sF_c⟩) ?_
  refine x_sub [3, 2, 1, 0] rfl ?_
  exact lw_loop C4 hd (tC_E2 z q D (xAll q v q1 a1 q2 a2) EC4 HX4) (tR_E2 z' q D (xAll q v q1 a1 q2 a2) ER4 HX4') (fun x h1 h2 => by
    have g1 := (tC_A z q D (xAll q v q1 a1 q2 a2) h1).2
    have g2 := (tR_A z' q D (xAll q v q1 a1 q2 a2) h2).1
    omega) sc4 hN (fun U H h => h.2.2.1) (fun U H h => h.2.2.2.2) hv (fun σ L => hend _ L) 3072 0 sF (by omega) (by omega)
/-- the walk of the law, from its entry to its end -/
theorem whole_start {p : Program} {e : Env} {s : State} {m : MethodId} {below : List Frame} {meth : Method} {c : Code} (l : Launch) (hflags : l.flags = flags0) {b L : Nat} {xs : Nat → Int32} (hL : L ≤ 3072) (C0 : lw_At p s m meth c b L xs) : W p l e room_1 s m #[Value.ref b] below meth c s.heap [] 0 0 (lw_Z below #[Value.ref b] s) (entryFrame m ([Value.ref b] : List Value).toArray 4) := by
  obtain ⟨hx, hb, hr, hml, hown, hts, hX, hbl, hlocks, hgv⟩ := C0
  obtain ⟨D, q, v, q1, a1, q2, a2, hKC, hKR, hAll, hv, hN⟩ := at_entry hts hgv
  have C : XC (p, l, e, room_1, s, m, #[Value.ref b], below, meth, c, lw_Z below #[Value.ref b] s, (fun q => s.heap.size ≤ q), 4, 0, 0) RL cL_law 4 90 := ⟨hx, hb, hml, hown, fun w hw => hts w (tb_all w hw), Nat.le_of_ble_eq_true rfl, Nat.le_of_ble_eq_true rfl, Nat.zero_le _, Nat.zero_le _, rfl⟩
  have hC4 : XC (kA (kA (kA (kA (p, l, e, room_1, s, m, #[Value.ref b], below, meth, c, lw_Z below #[Value.ref b] s, (fun q => s.heap.size ≤ q), 4, 0, 0) 1 10) 145 2326) 1 40) 15 2000) RL cL_law 4 90 := ⟨hx, hb, hml, hown, fun w hw => hts w (tb_all w hw), Nat.le_of_ble_eq_true rfl, Nat.le_of_ble_eq_true rfl, Nat.le_of_ble_eq_true rfl, Nat.le_of_ble_eq_true rfl, rfl⟩
  have hl := lv_entry ([.ref b]) (n := 4) (Nat.le_of_ble_eq_true rfl)
  rw [lg_entry_eq]
  exact lw_rows (z := s.heap.size) (xs := xs) C (Nat.le_refl _) ⟨hKC, fun _ h => h⟩ ⟨hKR, fun _ h => h⟩ ⟨fun U H locs hW hS => xAll_moved hW (fun a ha => hS.2.1 a ha (Nat.not_le.mpr ha)) hAll, hN⟩ ⟨hX, hbl, Nat.not_le.mpr hbl⟩ hL ⟨Nat.le_of_ble_eq_true rfl, Nat.le_of_ble_eq_true rfl⟩ hv (fun I L => lw_hend hC4 hr hlocks) (fun _ => .inr (0, [])) s.heap [] _ ⟨⟨rfl, fun j hj => absurd hj (Nat.not_lt_zero _)⟩, trivial⟩ va_S.rf hl
