set_option maxRecDepth 100000 in
set_option maxHeartbeats 800000 in
theorem c_X12_spell (t : CT) (M : MM) {p : Nat} (hp : p + 8 ≤ 960) (x1 x2 x3 x4 x5 x6 x7 x8 : Int32) : XMet (wR t) yX12_spell cX12_spell 10 none 1 [.ref (t.1 0), .int (nI p), .int x1, .int x2, .int x3, .int x4, .int x5, .int x6, .int x7, .int x8] M (rU (mu (mu (mu (mu (mu (mu (mu (mu M 1 p x1) 1 (p + 1) x2) 1 (p + 2) x3) 1 (p + 3) x4) 1 (p + 4) x5) 1 (p + 5) x6) 1 (p + 6) x7) 1 (p + 7) x8)) := by
  refine x_met RX12 (by decide) rfl (Nat.le_of_ble_eq_true rfl) (fun κ C X E => ?_)
  refine x_L (L' := [(0, .ref (t.1 0)), (1, .int (nI p)), (2, .int x1), (3, .int x2), (4, .int x3), (5, .int x4), (6, .int x5), (7, .int x6), (8, .int x7), (9, .int x8)]) rfl ?_
  refine x_aload_n (pc := 0) C 0 dX12_spell_0 rfl ?_
  refine g_M_texts (pc := 1) C E q11_12 dX12_spell_1 ?_
  refine x_iload_n (pc := 4) C 1 dX12_spell_4 rfl ?_
  refine x_iload_n (pc := 5) C 2 dX12_spell_5 rfl ?_
  refine s_Rtexts (pc := 6) C E (by omega) dX12_spell_6 ?_
  refine x_aload_n (pc := 7) C 0 dX12_spell_7 rfl ?_
  refine g_M_texts (pc := 8) C E q11_12 dX12_spell_8 ?_
  refine x_iload_n (pc := 11) C 1 dX12_spell_11 rfl ?_
  refine x_iconst (pc := 12) (v := (nI 1)) C dX12_spell_12 (by decide) ?_
  refine x_iadd (pc := 13) C dX12_spell_13 ?_
  refine x_eq (show (nI p) + (nI 1) = nI (p + 1) from nI_add _ _) ?_
  refine x_iload_n (pc := 14) C 3 dX12_spell_14 rfl ?_
  refine s_Rtexts (pc := 15) C E (by omega) dX12_spell_15 ?_
  refine x_aload_n (pc := 16) C 0 dX12_spell_16 rfl ?_
  refine g_M_texts (pc := 17) C E q11_12 dX12_spell_17 ?_
  refine x_iload_n (pc := 20) C 1 dX12_spell_20 rfl ?_
  refine x_iconst (pc := 21) (v := (nI 2)) C dX12_spell_21 (by decide) ?_
  refine x_iadd (pc := 22) C dX12_spell_22 ?_
  refine x_eq (show (nI p) + (nI 2) = nI (p + 2) from nI_add _ _) ?_
  refine x_iload (pc := 23) C 4 dX12_spell_23 rfl ?_
  refine s_Rtexts (pc := 25) C E (by omega) dX12_spell_25 ?_
  refine x_aload_n (pc := 26) C 0 dX12_spell_26 rfl ?_
  refine g_M_texts (pc := 27) C E q11_12 dX12_spell_27 ?_
  refine x_iload_n (pc := 30) C 1 dX12_spell_30 rfl ?_
  refine x_iconst (pc := 31) (v := (nI 3)) C dX12_spell_31 (by decide) ?_
  refine x_iadd (pc := 32) C dX12_spell_32 ?_
  refine x_eq (show (nI p) + (nI 3) = nI (p + 3) from nI_add _ _) ?_
  refine x_iload (pc := 33) C 5 dX12_spell_33 rfl ?_
  refine s_Rtexts (pc := 35) C E (by omega) dX12_spell_35 ?_
  refine x_aload_n (pc := 36) C 0 dX12_spell_36 rfl ?_
  refine g_M_texts (pc := 37) C E q11_12 dX12_spell_37 ?_
  refine x_iload_n (pc := 40) C 1 dX12_spell_40 rfl ?_
  refine x_iconst (pc := 41) (v := (nI 4)) C dX12_spell_41 (by decide) ?_
  refine x_iadd (pc := 42) C dX12_spell_42 ?_
  refine x_eq (show (nI p) + (nI 4) = nI (p + 4) from nI_add _ _) ?_
  refine x_iload (pc := 43) C 6 dX12_spell_43 rfl ?_
  refine s_Rtexts (pc := 45) C E (by omega) dX12_spell_45 ?_
  refine x_aload_n (pc := 46) C 0 dX12_spell_46 rfl ?_
  refine g_M_texts (pc := 47) C E q11_12 dX12_spell_47 ?_
  refine x_iload_n (pc := 50) C 1 dX12_spell_50 rfl ?_
  refine x_iconst (pc := 51) (v := (nI 5)) C dX12_spell_51 (by decide) ?_
  refine x_iadd (pc := 52) C dX12_spell_52 ?_
  refine x_eq (show (nI p) + (nI 5) = nI (p + 5) from nI_add _ _) ?_
  refine x_iload (pc := 53) C 7 dX12_spell_53 rfl ?_
  refine s_Rtexts (pc := 55) C E (by omega) dX12_spell_55 ?_
  refine x_aload_n (pc := 56) C 0 dX12_spell_56 rfl ?_
  refine g_M_texts (pc := 57) C E q11_12 dX12_spell_57 ?_
  refine x_iload_n (pc := 60) C 1 dX12_spell_60 rfl ?_
  refine x_bipush (pc := 61) (v := (nI 6)) C dX12_spell_61 (by decide) ?_
  refine x_iadd (pc := 63) C dX12_spell_63 ?_
  refine x_eq (show (nI p) + (nI 6) = nI (p + 6) from nI_add _ _) ?_
  refine x_iload (pc := 64) C 8 dX12_spell_64 rfl ?_
  refine s_Rtexts (pc := 66) C E (by omega) dX12_spell_66 ?_
  refine x_aload_n (pc := 67) C 0 dX12_spell_67 rfl ?_
  refine g_M_texts (pc := 68) C E q11_12 dX12_spell_68 ?_
  refine x_iload_n (pc := 71) C 1 dX12_spell_71 rfl ?_
  refine x_bipush (pc := 72) (v := (nI 7)) C dX12_spell_72 (by decide) ?_
  refine x_iadd (pc := 74) C dX12_spell_74 ?_
  refine x_eq (show (nI p) + (nI 7) = nI (p + 7) from nI_add _ _) ?_
  refine x_iload (pc := 75) C 9 dX12_spell_75 rfl ?_
  refine s_Rtexts (pc := 77) C E (by omega) dX12_spell_77 ?_
  exact x_vret (pc := 78) C X dX12_spell_78 ⟨rfl, rfl⟩

/-- the cells of the texts after the reference's spelling, from any memory -/
theorem sp_at {M : MM} {p : Nat} {x1 x2 x3 x4 x5 x6 x7 x8 : Int32} (k : Nat) : (mu (mu (mu (mu (mu (mu (mu (mu M 1 p x1) 1 (p + 1) x2) 1 (p + 2) x3) 1 (p + 3) x4) 1 (p + 4) x5) 1 (p + 5) x6) 1 (p + 6) x7) 1 (p + 7) x8) 1 k = if k = p + 7 then x8 else if k = p + 6 then x7 else if k = p + 5 then x6 else if k = p + 4 then x5 else if k = p + 3 then x4 else if k = p + 2 then x3 else if k = p + 1 then x2 else if k = p then x1 else M 1 k := by
  simp only [mu_at, true_and]
theorem sp_o {M : MM} {p : Nat} {x1 x2 x3 x4 x5 x6 x7 x8 : Int32} (a : Nat) (ha : a ≠ 1) : (mu (mu (mu (mu (mu (mu (mu (mu M 1 p x1) 1 (p + 1) x2) 1 (p + 2) x3) 1 (p + 3) x4) 1 (p + 4) x5) 1 (p + 5) x6) 1 (p + 6) x7) 1 (p + 7) x8) a = M a := by
  rw [mu_n _ _ _ _ ha, mu_n _ _ _ _ ha, mu_n _ _ _ _ ha, mu_n _ _ _ _ ha, mu_n _ _ _ _ ha, mu_n _ _ _ _ ha, mu_n _ _ _ _ ha, mu_n _ _ _ _ ha]
