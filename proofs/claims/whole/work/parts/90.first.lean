theorem c_X9_add2 (t : CT) (M : MM) {b : Nat} (h5 : M 5 2 = nI b) (hb : b < 160) (x1 : Int32) : XMet (wC t) yX9_add cX9_add 2 (some .boolean) 1 [.ref (t.1 5), .int x1] M (rI 1 (mu (mu M 6 b x1) 5 2 (nI (b + 1)))) := by
  refine x_met RX9 (by decide) rfl (Nat.le_of_ble_eq_true rfl) (fun κ C X E => ?_)
  refine x_L (L' := [(0, .ref (t.1 5)), (1, .int x1)]) rfl ?_
  refine x_aload_n (pc := 0) C 0 dX9_add_0 rfl ?_
  refine g_Tape_size (pc := 1) C E q7_23 dX9_add_1 ?_
  refine x_eq h5 ?_
  refine x_aload_n (pc := 4) C 0 dX9_add_4 rfl ?_
  refine g_Tape_bytes (pc := 5) C E q3_12 dX9_add_5 ?_
  refine n_bytes (pc := 8) C E dX9_add_8 ?_
  refine x_icmp_lt_t (pc := 9) C 14 dX9_add_9 (by decide) ((nI_ltI (a := b) (b := 160) (by omega) (by decide)).mpr hb) ?_
  refine x_aload_n (pc := 14) C 0 dX9_add_14 rfl ?_
  refine g_Tape_bytes (pc := 15) C E q3_12 dX9_add_15 ?_
  refine x_aload_n (pc := 18) C 0 dX9_add_18 rfl ?_
  refine g_Tape_size (pc := 19) C E q7_23 dX9_add_19 ?_
  refine x_eq h5 ?_
  refine x_iload_n (pc := 22) C 1 dX9_add_22 rfl ?_
  refine s_bytes (pc := 23) C E (by omega) dX9_add_23 ?_
  refine x_aload_n (pc := 24) C 0 dX9_add_24 rfl ?_
  refine x_dup (pc := 25) C dX9_add_25 rfl ?_
  refine g_Tape_size (pc := 26) C E q7_23 dX9_add_26 ?_
  refine x_eq (show (mu M 6 b x1) 5 2 = nI b from (congrFun (mu_n _ _ _ _ (by decide)) _).trans h5) ?_
  refine x_iconst (pc := 29) (v := 1) C dX9_add_29 rfl ?_
  refine x_iadd (pc := 30) C dX9_add_30 ?_
  refine x_eq (show (nI b) + 1 = nI (b + 1) from nI_1 _) ?_
  refine p_Tape_size (pc := 31) C E q7_23 dX9_add_31 ?_
  refine x_iconst (pc := 34) (v := 1) C dX9_add_34 rfl ?_
  exact x_bret (pc := 35) C X (b := true) rfl dX9_add_35 ⟨rfl, rfl⟩
def mA (i n k : Nat) : Int32 := if n = 5 ∧ k = 2 then nI i else if n = 6 ∧ k < i then frB k else mC n k
theorem mA_0 : mC = mA 0 := by
  funext n k
  unfold mA
  by_cases h : n = 5 ∧ k = 2
  · rw [if_pos h, h.1, h.2]; rfl
  · rw [if_neg h, if_neg (by omega)]
theorem mA_s (i : Nat) : mu (mu (mA i) 6 i (frB i)) 5 2 (nI (i + 1)) = mA (i + 1) := by
  funext n k
  rw [mu_at, mu_at]
  unfold mA
  by_cases h : n = 5 ∧ k = 2
  · rw [if_pos h, if_pos h]
  rw [if_neg h, if_neg h, if_neg h]
  by_cases g : n = 6 ∧ k = i
  · rw [if_pos g, if_pos (by omega), g.2]
  rw [if_neg g]
  by_cases g2 : n = 6 ∧ k < i
  · rw [if_pos g2, if_pos (by omega)]
  · rw [if_neg g2, if_neg (by omega)]
theorem mA_T : TY frB 46 (mA 46) := ⟨by decide, rfl, fun k hk => by unfold mA; rw [if_neg (by omega), if_pos ⟨rfl, hk⟩]⟩
theorem mA_o {n k : Nat} (h5 : ¬ (n = 5 ∧ k = 2)) (h6 : n ≠ 6) : mA 46 n k = mC n k := by
  unfold mA
  rw [if_neg h5, if_neg (by omega)]
def txF (v : Value) (q a : Nat) (U : State) (H : Heap) : Prop := stS v U H ∧ stT q a 46 frF U H ∧ vk_R RX11 82 "takes here < there ; goes 5 ; worth 1 + file ;" q U
set_option maxRecDepth 100000 in
set_option maxHeartbeats 1000000 in
theorem b11_e (z : Nat) (q : Nat → ClassId) (D : va_G) (X : State → Heap → Prop) {d : Nat} (hd : 72 ≤ d) {v : Value} {q1 a1 q2 a2 : Nat} (hF : ∀ U H, X U H → txF v q1 a1 U H) (hW : ∀ U H, X U H → txW v q2 a2 U H) (hv : v = .null ∨ ∃ z, v = .ref z) (κ : XK) (F : yF κ RX11 cX11_init 2 d D (wC (tC z q D X)).2.2.2.2.1 z X (fun H => ∃ M, RC sF M ∧ xP (wC (tC z q D X)) M H) 145 2326 0 0 145 2326) (m : Nat) : ∀ i : Nat, i + m = 46 → XV κ (xP (wC (tC z q D X)) (mA i)) 257 [(1, .int (nI i)), (0, .ref ((tC z q D X).1 0))] [] := by
  have E := tC_E z q D X F
  have C := F.1
  generalize ht : tC z q D X = t at E ⊢
  have hF' : ∀ U H, xX (wC t) U H → txF v q1 a1 U H := by subst ht; exact hF
  have hW' : ∀ U H, xX (wC t) U H → txW v q2 a2 U H := by subst ht; exact hW
  induction m with
  | zero =>
    intro i hi
    obtain rfl : i = 46 := by omega
    refine x_iload_n (pc := 257) C 0 dX11_init_257 rfl ?_
    refine x_ldcS (pc := 258) C E (fun U H g => (hF' U H g).2.2) dX11_init_258 ?_
    refine x_callVX (pc := 260) C E [] [.int (nI 46)] (c_J0_length (w := wC t) (fun U H g => (hF' U H g).1) (fun U H g => (hF' U H g).2.1) (by decide)) m_J0_length_8abf5 q5_18 (fun U H g => (hF' U H g).2.1.1) rfl (by omega) (Nat.le_of_ble_eq_true rfl) dX11_init_260 rfl (k_I ?_)
    refine x_icmp_ge_t (pc := 263) C 286 dX11_init_263 (by decide) (by decide) ?_
    refine x_aload_n (pc := 286) C 1 dX11_init_286 rfl ?_
    refine g_main_tape (pc := 287) C E q1_21 dX11_init_287 ?_
    refine x_callV (pc := 290) C E [] [] (c_X9_read t hW' hv (mA 46) mA_T) m_X9_read q8_0 xo_Tape rfl (by omega) (Nat.le_of_ble_eq_true rfl) dX11_init_290 rfl (fun r M16 hc16 => ?_)
    obtain ⟨rfl, hT16, hG16, hF16⟩ := hc16
    refine x_pop (pc := 293) C dX11_init_293 rfl ?_
    refine x_aload_n (pc := 294) C 1 dX11_init_294 rfl ?_
    refine g_main_tape (pc := 295) C E q1_21 dX11_init_295 ?_
    refine x_callV (pc := 298) C E [] [] (c_X9_clear2 t _) m_X9_clear q10_20 xo_Tape rfl (by omega) (Nat.le_of_ble_eq_true rfl) dX11_init_298 rfl (k_U ?_)
    refine x_aload_n (pc := 301) C 1 dX11_init_301 rfl ?_
    refine g_main_texts (pc := 302) C E q1_15 dX11_init_302 ?_
    refine x_iconst (pc := 305) (v := nI 0) C dX11_init_305 (by decide) ?_
    refine l_texts (pc := 306) C E (by decide) dX11_init_306 ?_
    refine x_aload_n (pc := 307) C 1 dX11_init_307 rfl ?_
    refine g_main_tape (pc := 308) C E q1_21 dX11_init_308 ?_
    refine g_Tape_rule (pc := 311) C E q3_7 dX11_init_311 ?_
    refine x_callV (pc := 314) C E [.ref (t.1 (19 + 5 * 6))] [] (c_X6_become t _ (q := 0) (by decide) (q2 := 6) (by decide)) m_X6_become q11_0 (xo_Rule (q := 0) (by decide)) rfl (by omega) (Nat.le_of_ble_eq_true rfl) dX11_init_314 rfl (k_U ?_)
    have hg := hG16 fr_rd
    have hR6 := rulC_congr (M' := mu M16 5 2 0) (rulC_read (by decide) fr_rd hg.1 hg.2) (fun y => congrFun (mu_n _ _ _ _ (by decide)) y) (fun y => congrFun (mu_n _ _ _ _ (by decide)) y)
    have hR0 := rulC_bec hR6 (q := 0) (by decide)
    have hO : ∀ a b, a ≠ 5 → a ≠ 6 → (a < 19 ∨ 51 < a) → rBec (mu M16 5 2 0) 0 6 a b = mC a b := fun a b h5 h6 hr => by
      rw [rBec_o _ _ _ (by omega), mu_n _ _ _ _ h5, hF16 a b (fun h => absurd h h5) (fun h => by omega) (by omega) (by omega)]
      exact mA_o (fun h => h5 h.1) h6
    have hRC : RC sF (rBec (mu M16 5 2 0) 0 6) := rc_first (hO 7 0 (by decide) (by decide) (by decide)) (hO 7 1 (by decide) (by decide) (by decide)) (hO 7 2 (by decide) (by decide) (by decide)) (hO 0 8 (by decide) (by decide) (by decide)) (hO 0 9 (by decide) (by decide) (by decide)) hR0 (by rw [rBec_o _ _ _ (by decide), mu_s]) (fun s hs => by
      rw [hO _ _ (by omega) (by omega) (by omega)]
      unfold mC
      rw [if_neg (by omega), if_neg (by omega), if_pos (by omega)]) (fun j hj => by
      rw [hO _ _ (by omega) (by omega) (by omega)]
      unfold mC
      rw [if_neg (by omega), if_neg (by omega), if_neg (by omega)])
    subst ht
    exact z_ret (pc := 317) F (fun H h => ⟨_, hRC, h⟩) (Nat.le_refl _) (Nat.le_refl _) dX11_init_317
  | succ m ih =>
    intro i hi
    refine x_iload_n (pc := 257) C 0 dX11_init_257 rfl ?_
    refine x_ldcS (pc := 258) C E (fun U H g => (hF' U H g).2.2) dX11_init_258 ?_
    refine x_callVX (pc := 260) C E [] [.int (nI i)] (c_J0_length (w := wC t) (fun U H g => (hF' U H g).1) (fun U H g => (hF' U H g).2.1) (by decide)) m_J0_length_8abf5 q5_18 (fun U H g => (hF' U H g).2.1.1) rfl (by omega) (Nat.le_of_ble_eq_true rfl) dX11_init_260 rfl (k_I ?_)
    refine x_icmp_ge_f (pc := 263) C 286 dX11_init_263 (by decide) (by rw [i_le, nI_toInt (n := 46) (by omega), nI_toInt (n := i) (by omega)]; omega) ?_
    refine x_aload_n (pc := 266) C 1 dX11_init_266 rfl ?_
    refine g_main_tape (pc := 267) C E q1_21 dX11_init_267 ?_
    refine x_ldcS (pc := 270) C E (fun U H g => (hF' U H g).2.2) dX11_init_270 ?_
    refine x_iload_n (pc := 272) C 0 dX11_init_272 rfl ?_
    refine x_callVX (pc := 273) C E [.int (nI i)] [.ref (t.1 5)] (c_J0_charAt (w := wC t) (fun U H g => (hF' U H g).1) (fun U H g => (hF' U H g).2.1) (k := i) (by omega) (by decide) hv rfl (fr_ok _ (by omega)) (fr_nar _ (by omega))) m_J0_charAt_5068e q6_6 (fun U H g => (hF' U H g).2.1.1) rfl (by omega) (Nat.le_of_ble_eq_true rfl) dX11_init_273 rfl (k_I ?_)
    refine x_callV (pc := 276) C E [.int (frB i)] [] (c_X9_add2 t (mA i) (b := i) rfl (by omega) (frB i)) m_X9_add q7_19 xo_Tape rfl (by omega) (Nat.le_of_ble_eq_true rfl) dX11_init_276 rfl (k_I ?_)
    rw [mA_s]
    refine x_pop (pc := 279) C dX11_init_279 rfl ?_
    refine x_iinc (pc := 280) (v := nI (i + 1)) C 0 dX11_init_280 rfl (nI_1 _) (by decide) rfl ?_
    refine x_goto (pc := 283) C 257 dX11_init_283 (by decide) ?_
    exact ih (i + 1) (by omega)
