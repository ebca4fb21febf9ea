theorem tx_entry {s : State} {A : Array Value} (hts : ∀ w ∈ lw_tbl, w.before A s = true) (hgv : (Jvm.Cond.and given_1 narrow_1).before A s = true) : ∃ (v : Value) (q1 a1 q2 a2 : Nat), (v = .null ∨ ∃ z, v = .ref z) ∧ txF v q1 a1 s s.heap ∧ txW v q2 a2 s s.heap := by
  have hs := flat_of_before _ hgv
  have hZ1 := va_Zof (C := "java/lang/String") (n := "COMPACT_STRINGS") (d := "Z") (v := .int 1) (A := aN) (hts (.laysStatic "java/lang/String" "COMPACT_STRINGS" "Z") (tb_at 305 (by decide +kernel))) (hts (.initialized "java/lang/String") (tb_at 84 (by decide +kernel))) (va_eqt (hs (.eq (.static "java/lang/String" "COMPACT_STRINGS" "Z") (.int 1)) (by decide +kernel))) (fun _ _ h => h)
  have hZ2 := va_Zqof (C := "jdk/internal/util/Preconditions") (n := "SIOOBE_FORMATTER") (d := "Ljava/util/function/BiFunction;") (A := aN) (hts (.laysStatic "jdk/internal/util/Preconditions" "SIOOBE_FORMATTER" "Ljava/util/function/BiFunction;") (tb_at 321 (by decide +kernel))) (hts (.initialized "jdk/internal/util/Preconditions") (tb_at 86 (by decide +kernel))) (hs (.isRef (.static "jdk/internal/util/Preconditions" "SIOOBE_FORMATTER" "Ljava/util/function/BiFunction;")) (by decide +kernel)) (fun _ _ h => h)
  obtain ⟨adK, adV, hV, hE⟩ := vk_Sof (args := A) (s := s) (N := 2) (tm := fun i => if i = 0 then .string RX11 82 else .string RX9 85) (len := [46, 60]) (byt := [frL, wbL]) (A := aN) (by decide)
    (fun i hi => by
      rcases (show i = 0 ∨ i = 1 by omega) with rfl | rfl
      · exact hs (.exactly (.string RX11 82) "java/lang/String") (by decide +kernel)
      · exact hs (.exactly (.string RX9 85) "java/lang/String") (by decide +kernel))
    (fun i hi => by
      rcases (show i = 0 ∨ i = 1 by omega) with rfl | rfl
      · exact hs (.eq (.field (.string RX11 82) "java/lang/String" "coder" "B") (.int 0)) (by decide +kernel)
      · exact hs (.eq (.field (.string RX9 85) "java/lang/String" "coder" "B") (.int 0)) (by decide +kernel))
    (fun i hi => by
      rcases (show i = 0 ∨ i = 1 by omega) with rfl | rfl
      · exact hs (.arrayOf (.field (.string RX11 82) "java/lang/String" "value" "[B") .byte) (by decide +kernel)
      · exact hs (.arrayOf (.field (.string RX9 85) "java/lang/String" "value" "[B") .byte) (by decide +kernel))
    (fun i hi => by
      rcases (show i = 0 ∨ i = 1 by omega) with rfl | rfl
      · exact hs (.eq (.length (.field (.string RX11 82) "java/lang/String" "value" "[B")) (.int 46)) (by decide +kernel)
      · exact hs (.eq (.length (.field (.string RX9 85) "java/lang/String" "value" "[B")) (.int 60)) (by decide +kernel))
    (fun i hi => by
      rcases (show i = 0 ∨ i = 1 by omega) with rfl | rfl
      · exact fun j hj => hs _ (el_0 j hj)
      · exact fun j hj => hs _ (el_1 j hj))
    (fun i j hi hj hij => by
      rcases (show i = 0 ∨ i = 1 by omega) with rfl | rfl <;> rcases (show j = 0 ∨ j = 1 by omega) with rfl | rfl
      · exact absurd rfl hij
      · exact Or.inl (hs (.not (.eq (.string RX11 82) (.string RX9 85))) (by decide +kernel))
      · exact Or.inr (hs (.not (.eq (.string RX11 82) (.string RX9 85))) (by decide +kernel))
      · exact absurd rfl hij) (fun _ _ h => h)
  have k1 : vk_R RX11 82 "takes here < there ; goes 5 ; worth 1 + file ;" (adK 0) s := vk_R.of (hts (.stringRef RX11 82 "takes here < there ; goes 5 ; worth 1 + file ;") (tb_at 295 (by decide +kernel))) (hE 0 (by decide))
  have k2 : vk_R RX9 85 "takes goes worth or and not here there same number file day " (adK 1) s := vk_R.of (hts (.stringRef RX9 85 "takes goes worth or and not here there same number file day ") (tb_at 371 (by decide +kernel))) (hE 1 (by decide))
  have t1 : stT (adK 0) (adV 0) 46 frF s s.heap := hV.1 0 (by decide)
  have t2 : stT (adK 1) (adV 1) 60 wtF s s.heap := hV.1 1 (by decide)
  rcases hZ2 with hZ | ⟨z, hZ⟩
  · exact ⟨.null, adK 0, adV 0, adK 1, adV 1, Or.inl rfl, ⟨⟨hZ1, hZ⟩, t1, k1⟩, ⟨⟨hZ1, hZ⟩, t2, k2⟩⟩
  · exact ⟨.ref z, adK 0, adV 0, adK 1, adV 1, Or.inr ⟨z, rfl⟩, ⟨⟨hZ1, hZ⟩, t1, k1⟩, ⟨⟨hZ1, hZ⟩, t2, k2⟩⟩
def tysC (q : Nat → ClassId) : List (ClassId × FieldType) := [(q 0, .int), (q 2, .object "InTheOldOne$Disk"), (q 3, .object "InTheOldOne$DiskKind"), (q 4, .object "InTheOldOne$Rule"), (q 5, .object "InTheOldOne$Sheet")]
def tysR (q : Nat → ClassId) : List (ClassId × FieldType) := [(q 0, .int), (q 1, .boolean)]
theorem at_entry {s : State} {A : Array Value} (hts : ∀ w ∈ lw_tbl, w.before A s = true) (hgv : (Jvm.Cond.and given_1 narrow_1).before A s = true) : ∃ (D : va_G) (q : Nat → ClassId) (v : Value) (q1 a1 q2 a2 : Nat), va_K D vwCl (tysC q) s ∧ va_K D vwCl (tysR q) s ∧ xAll q v q1 a1 q2 a2 s s.heap ∧ (v = .null ∨ ∃ z, v = .ref z) ∧ ∀ n ∈ lw_nest, va_Nw n s := by
  have hs := flat_of_before _ hgv
  obtain ⟨D, hD⟩ := kn_all (fun w hw => hts w (tb_all w hw))
  obtain ⟨cI, i1, i2⟩ := arr_i (hts (.arrayClass .int) (tb_at 138 (by decide +kernel)))
  obtain ⟨cZ, z1, z2⟩ := arr_z (hts (.arrayClass .boolean) (tb_at 1045 (by decide +kernel)))
  obtain ⟨cD, d1, d2, d3⟩ := arr_o (hts (.arrayOver (.object RX2)) (tb_at 170 (by decide +kernel)))
  obtain ⟨cK, k1, k2, k3⟩ := arr_o (hts (.arrayOver (.object RX3)) (tb_at 102 (by decide +kernel)))
  obtain ⟨cR, r1, r2, r3⟩ := arr_o (hts (.arrayOver (.object RX6)) (tb_at 104 (by decide +kernel)))
  obtain ⟨cS, s1, s2, s3⟩ := arr_o (hts (.arrayOver (.object RX8)) (tb_at 106 (by decide +kernel)))
  obtain ⟨v, q1, a1, q2, a2, hv, hF, hW⟩ := tx_entry hts hgv
  have c0 := (hD 0 (RX0, TX0, 1) rfl).2
  have c1 := (hD 1 (RX1, TX1, 1) rfl).2
  have c2 := (hD 2 (RX2, TX2, 6) rfl).2
  have c3 := (hD 3 (RX3, TX3, 1) rfl).2
  have c4 := (hD 4 (RX4, TX4, 1) rfl).2
  have c5 := (hD 5 (RX5, TX5, 1) rfl).2
  have c6 := (hD 6 (RX6, TX6, 6) rfl).2
  have c7 := (hD 7 (RX7, TX7, 1) rfl).2
  have c8 := (hD 8 (RX8, TX8, 3) rfl).2
  have hio : iuF s := ⟨fun n hn => va_Nc.of (hs _ (iuN_in n hn)), fun n hn => by
    simp only [iuY, List.mem_cons, List.not_mem_nil, or_false] at hn
    rcases hn with rfl | rfl
    · exact va_Nw.of rfl (hts _ (tb_at 1399 (by decide +kernel)))
    · exact va_Nw.of rfl (hts _ (tb_at 1400 (by decide +kernel))), fun n hn => by
    simp only [iuS, List.mem_cons, List.not_mem_nil, or_false] at hn
    rcases hn with rfl | rfl | rfl | rfl | rfl
    · exact ⟨_, c0⟩
    · exact ⟨_, c1⟩
    · exact ⟨_, c4⟩
    · exact ⟨_, c7⟩
    · exact ⟨_, c5⟩⟩
  refine ⟨D, fun n => if n = 0 then cI else if n = 1 then cZ else if n = 2 then cD else if n = 3 then cK else if n = 4 then cR else cS, v, q1, a1, q2, a2, ⟨hD, fun k e hk => ?_⟩, ⟨hD, fun k e hk => ?_⟩, ⟨⟨i2, ⟨?_, d3⟩, ⟨?_, k3⟩, ⟨?_, r3⟩, ⟨?_, s3⟩, asg_self c2, asg_self c6, asg_self c8, asg_self c3, asg_of (hts (.castable RX0 RX3) (tb_at 1401 (by decide +kernel))), asg_of (hts (.castable RX1 RX3) (tb_at 1402 (by decide +kernel))), asg_of (hts (.castable RX4 RX3) (tb_at 1403 (by decide +kernel))), asg_of (hts (.castable RX7 RX3) (tb_at 1404 (by decide +kernel))), asg_of (hts (.castable RX5 RX3) (tb_at 1405 (by decide +kernel)))⟩, z2, hio, hF, hW⟩, hv, fun n hn => va_Nw.of (nest_on n hn) (hts n (nest_tb n hn))⟩
  · match k, hk with
    | 0, hk => cases hk; exact ⟨i1, i2⟩
    | 1, hk => cases hk; exact ⟨d1, d2⟩
    | 2, hk => cases hk; exact ⟨k1, k2⟩
    | 3, hk => cases hk; exact ⟨r1, r2⟩
    | 4, hk => cases hk; exact ⟨s1, s2⟩
    | k + 5, hk => exact absurd (List.getElem?_eq_some_iff.mp hk).1 (by show ¬ k + 5 < 5; omega)
  · match k, hk with
    | 0, hk => cases hk; exact ⟨i1, i2⟩
    | 1, hk => cases hk; exact ⟨z1, z2⟩
    | k + 2, hk => exact absurd (List.getElem?_eq_some_iff.mp hk).1 (by show ¬ k + 2 < 2; omega)
  · obtain ⟨_, _, -, -, -, h⟩ := d2; exact h
  · obtain ⟨_, _, -, -, -, h⟩ := k2; exact h
  · obtain ⟨_, _, -, -, -, h⟩ := r2; exact h
  · obtain ⟨_, _, -, -, -, h⟩ := s2; exact h
