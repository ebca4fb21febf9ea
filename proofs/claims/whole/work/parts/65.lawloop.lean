theorem and31 (x : Int32) : ∃ k : Nat, k < 32 ∧ x &&& 31 = nI k := by
  refine ⟨(x &&& 31).toBitVec.toNat, ?_, ?_⟩
  · rw [Int32.toBitVec_and, BitVec.toNat_and]
    exact Nat.lt_of_le_of_lt Nat.and_le_right (by decide)
  · apply Int32.toBitVec_inj.mp
    apply BitVec.eq_of_toNat_eq
    show _ = (BitVec.ofNat 32 _).toNat
    rw [BitVec.toNat_ofNat, Nat.mod_eq_of_lt (BitVec.isLt _)]
theorem lw_end {i N : Nat} (hN : N ≤ 3072) (hi : i ≤ 4000) : (nI N - 6 < nI i) ↔ N < i + 6 := by
  rw [i_lt, nI_toInt (n := i) (by omega), Int32.toInt_sub, nI_toInt (n := N) (by omega), show Int32.toInt 6 = 6 from rfl, Int.bmod_eq_of_le (by omega) (by omega)]
  omega
set_option maxRecDepth 100000 in
set_option maxHeartbeats 4000000 in
theorem lw_loop {κ : XK} {t t' : CT} {d b N : Nat} {xs : Nat → Int32} (C : XC κ RL cL_law 4 d) (hd : 90 ≤ d) (E : XE κ (wC t)) (E' : XE κ (wR t')) (hap : ∀ q, xA (wC t) q → ¬ xA (wR t') q) (hX : xSc κ b N xs) (hN : N ≤ 3072) (hu : ∀ (U : State) (H : Heap), t.2.2.2 U H → iuF U) {v : Value} {q a : Nat} (hT : ∀ U H, t.2.2.2 U H → txW v q a U H) (hv : v = .null ∨ ∃ z, v = .ref z) (hend : ∀ (σ : SV) (L : List (Nat × Value)), XV κ (LIn t t' σ) 1199 L []) : ∀ (k i : Nat) (σ : SV), N ≤ i + k → i ≤ N + 6 → XV κ (LIn t t' σ) 18 [(0, .ref b), (1, .ref (t.1 0)), (2, .ref (t'.1 0)), (3, .int (nI i))] [] := by
  intro k
  induction k with
  | zero =>
    intro i σ h1 h2
    refine x_iload_n (pc := 18) C 3 dL_law_18 rfl ?_
    refine x_aload_n (pc := 19) C 0 dL_law_19 rfl ?_
    refine x_slen (pc := 20) C hX dL_law_20 ?_
    refine x_bipush (pc := 21) (v := 6) C dL_law_21 rfl ?_
    refine x_isub (pc := 23) C dL_law_23 ?_
    refine x_icmp_gt_t (pc := 24) C 1199 dL_law_24 (by decide) ((lw_end hN (by omega)).mpr (by omega)) ?_
    exact hend _ _
  | succ k ih =>
    intro i σ h1 h2
    by_cases hi : i + 6 ≤ N
    · have K : ∀ σ' : SV, XV κ (LIn t t' σ') 1193 [(0, .ref b), (1, .ref (t.1 0)), (2, .ref (t'.1 0)), (3, .int (nI i))] [] := fun σ' => by
        refine x_iinc (pc := 1193) (v := nI (i + 6)) (L' := [(3, .int (nI (i + 6))), (0, .ref b), (1, .ref (t.1 0)), (2, .ref (t'.1 0))]) C 3 dL_law_1193 rfl (nI_add _ 6) (by decide) rfl ?_
        refine x_goto (pc := 1196) C 18 dL_law_1196 (by decide) ?_
        refine x_sub [1, 2, 3, 0] rfl ?_
        exact ih (i + 6) σ' (by omega) (by omega)
      refine x_iload_n (pc := 18) C 3 dL_law_18 rfl ?_
      refine x_aload_n (pc := 19) C 0 dL_law_19 rfl ?_
      refine x_slen (pc := 20) C hX dL_law_20 ?_
      refine x_bipush (pc := 21) (v := 6) C dL_law_21 rfl ?_
      refine x_isub (pc := 23) C dL_law_23 ?_
      refine x_icmp_gt_f (pc := 24) C 1199 dL_law_24 (by decide) (fun h => by have := (lw_end hN (by omega)).mp h; omega) ?_
      refine x_aload_n (pc := 27) C 0 dL_law_27 rfl ?_
      refine x_iload_n (pc := 28) C 3 dL_law_28 rfl ?_
      refine x_sld (pc := 29) C hX (i := i) (by omega) hN dL_law_29 ?_
      refine x_bipush (pc := 30) (v := 31) C dL_law_30 rfl ?_
      refine x_iand (pc := 32) C dL_law_32 ?_
      obtain ⟨j, hj, ej⟩ := and31 (xs i)
      refine x_eq (show xs i &&& 31 = nI j from ej) ?_
      rcases (by omega : j = 0 ∨ j = 1 ∨ j = 2 ∨ j = 3 ∨ j = 4 ∨ j = 5 ∨ j = 6 ∨ j = 7 ∨ j = 8 ∨ j = 9 ∨ j = 10 ∨ j = 11 ∨ j = 12 ∨ j = 13 ∨ j = 14 ∨ j = 15 ∨ j = 16 ∨ j = 17 ∨ j = 18 ∨ j = 19 ∨ j = 20 ∨ j = 21 ∨ j = 22 ∨ j = 23 ∨ j = 24 ∨ j = 25 ∨ j = 26 ∨ j = 27 ∨ j = 28 ∨ j = 29 ∨ j = 30 ∨ j = 31) with rfl | rfl | rfl | rfl | rfl | rfl | rfl | rfl | rfl | rfl | rfl | rfl | rfl | rfl | rfl | rfl | rfl | rfl | rfl | rfl | rfl | rfl | rfl | rfl | rfl | rfl | rfl | rfl | rfl | rfl | rfl | rfl
      · refine x_tableIn (pc := 33) C 176 dL_law_33 (by decide) (by decide) rfl (by decide) ?_
        exact lw_case0 C hd E E' hap hX hi hN K
      · refine x_tableIn (pc := 33) C 219 dL_law_33 (by decide) (by decide) rfl (by decide) ?_
        exact lw_case1 C hd E E' hap hX hi hN K
      · refine x_tableIn (pc := 33) C 252 dL_law_33 (by decide) (by decide) rfl (by decide) ?_
        exact lw_case2 C hd E E' hap hX hi hN K
      · refine x_tableIn (pc := 33) C 285 dL_law_33 (by decide) (by decide) rfl (by decide) ?_
        exact lw_case3 C hd E E' hap hX hi hN K
      · refine x_tableIn (pc := 33) C 328 dL_law_33 (by decide) (by decide) rfl (by decide) ?_
        exact lw_case4 C hd E E' hap hX hi hN K
      · refine x_tableIn (pc := 33) C 351 dL_law_33 (by decide) (by decide) rfl (by decide) ?_
        exact lw_case5 C hd E E' hap hX hi hN hT hv K
      · refine x_tableIn (pc := 33) C 364 dL_law_33 (by decide) (by decide) rfl (by decide) ?_
        exact lw_case6 C hd E E' hap hX hi hN K
      · refine x_tableIn (pc := 33) C 387 dL_law_33 (by decide) (by decide) rfl (by decide) ?_
        exact lw_case7 C hd E E' hap hX hi hN K
      · refine x_tableIn (pc := 33) C 430 dL_law_33 (by decide) (by decide) rfl (by decide) ?_
        exact lw_case8 C hd E E' hap hX hi hN K
      · refine x_tableIn (pc := 33) C 463 dL_law_33 (by decide) (by decide) rfl (by decide) ?_
        exact lw_case9 C hd E E' hap hX hi hN K
      · refine x_tableIn (pc := 33) C 496 dL_law_33 (by decide) (by decide) rfl (by decide) ?_
        exact lw_case10 C hd E E' hap hX hi hN K
      · refine x_tableIn (pc := 33) C 519 dL_law_33 (by decide) (by decide) rfl (by decide) ?_
        exact lw_case11 C hd E E' hap hX hi hN K
      · refine x_tableIn (pc := 33) C 552 dL_law_33 (by decide) (by decide) rfl (by decide) ?_
        exact lw_case12 C hd E E' hap hX hi hN K
      · refine x_tableIn (pc := 33) C 575 dL_law_33 (by decide) (by decide) rfl (by decide) ?_
        exact lw_case13 C hd E E' hap hX hi hN K
      · refine x_tableIn (pc := 33) C 608 dL_law_33 (by decide) (by decide) rfl (by decide) ?_
        exact lw_case14 C hd E E' hap hX hi hN K
      · refine x_tableIn (pc := 33) C 631 dL_law_33 (by decide) (by decide) rfl (by decide) ?_
        exact lw_case15 C hd E E' hap hX hi hN K
      · refine x_tableIn (pc := 33) C 654 dL_law_33 (by decide) (by decide) rfl (by decide) ?_
        exact lw_case16 C hd E E' hap hX hi hN K
      · refine x_tableIn (pc := 33) C 667 dL_law_33 (by decide) (by decide) rfl (by decide) ?_
        exact lw_case17 C hd E E' hap hX hi hN K
      · refine x_tableIn (pc := 33) C 700 dL_law_33 (by decide) (by decide) rfl (by decide) ?_
        exact lw_case18 C hd E E' hap hX hi hN K
      · refine x_tableIn (pc := 33) C 723 dL_law_33 (by decide) (by decide) rfl (by decide) ?_
        exact lw_case19 C hd E E' hap hX hi hN K
      · refine x_tableIn (pc := 33) C 756 dL_law_33 (by decide) (by decide) rfl (by decide) ?_
        exact lw_case20 C hd E E' hap hX hi hN K
      · refine x_tableIn (pc := 33) C 809 dL_law_33 (by decide) (by decide) rfl (by decide) ?_
        exact lw_case21 C hd E E' hap hX hi hN K
      · refine x_tableIn (pc := 33) C 842 dL_law_33 (by decide) (by decide) rfl (by decide) ?_
        exact lw_case22 C hd E E' hap hX hi hN K
      · refine x_tableIn (pc := 33) C 865 dL_law_33 (by decide) (by decide) rfl (by decide) ?_
        exact lw_case23 C hd E E' hap hX hi hN K
      · refine x_tableIn (pc := 33) C 909 dL_law_33 (by decide) (by decide) rfl (by decide) ?_
        exact lw_case24 C hd E E' hap hX hi hN K
      · refine x_tableIn (pc := 33) C 922 dL_law_33 (by decide) (by decide) rfl (by decide) ?_
        exact lw_case25 C hd E E' hap hX hi hN K
      · refine x_tableIn (pc := 33) C 935 dL_law_33 (by decide) (by decide) rfl (by decide) ?_
        exact lw_case26 C hd E E' hap hX hi hN K
      · refine x_tableIn (pc := 33) C 958 dL_law_33 (by decide) (by decide) rfl (by decide) ?_
        exact lw_case27 C hd E E' hap hX hi hN K
      · refine x_tableIn (pc := 33) C 1001 dL_law_33 (by decide) (by decide) rfl (by decide) ?_
        exact lw_case28 C hd E E' hap hX hi hN K
      · refine x_tableIn (pc := 33) C 1044 dL_law_33 (by decide) (by decide) rfl (by decide) ?_
        exact lw_case29 C hd E E' hap hX hi hN K
      · refine x_tableIn (pc := 33) C 1107 dL_law_33 (by decide) (by decide) rfl (by decide) ?_
        exact lw_case30 C hd E E' hap hX hi hN K
      · refine x_tableIn (pc := 33) C 1160 dL_law_33 (by decide) (by decide) rfl (by decide) ?_
        exact lw_case31 C hd E E' hap hX hi hN hu K
    · refine x_iload_n (pc := 18) C 3 dL_law_18 rfl ?_
      refine x_aload_n (pc := 19) C 0 dL_law_19 rfl ?_
      refine x_slen (pc := 20) C hX dL_law_20 ?_
      refine x_bipush (pc := 21) (v := 6) C dL_law_21 rfl ?_
      refine x_isub (pc := 23) C dL_law_23 ?_
      refine x_icmp_gt_t (pc := 24) C 1199 dL_law_24 (by decide) ((lw_end hN (by omega)).mpr (by omega)) ?_
      exact hend _ _
