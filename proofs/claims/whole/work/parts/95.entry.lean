/-! what stands at the law's entry -/
theorem tb_at {w : Cond} (i : Nat) (h : lw_tbl[i]? = some w) : w ∈ lw_tbl := List.mem_of_getElem? h
theorem arr_i {s : State} {A : Array Value} (h : (Cond.arrayClass .int).before A s = true) : ∃ c, ArrOfT s c .int ∧ va_RA s c .int := by
  obtain ⟨c, k, comp, h1, h2, h3⟩ := Cond.arrayClass_spec h
  exact ⟨c, fun n z => ⟨fun k h => (by cases h), k, h2, comp, h3⟩, h1⟩
theorem arr_z {s : State} {A : Array Value} (h : (Cond.arrayClass .boolean).before A s = true) : ∃ c, ArrOfT s c .boolean ∧ va_RA s c .boolean := by
  obtain ⟨c, k, comp, h1, h2, h3⟩ := Cond.arrayClass_spec h
  exact ⟨c, fun n z => ⟨fun k h => (by cases h), k, h2, comp, h3⟩, h1⟩
theorem arr_o {s : State} {A : Array Value} {C : String} (h : (Cond.arrayOver (.object C)).before A s = true) : ∃ c, ArrOfT s c (.object C) ∧ va_RA s c (.object C) ∧ va_AO C s := by
  obtain ⟨comp, c, k, h1, h2, h3, h4, h5⟩ := Cond.arrayOver_spec h
  exact ⟨c, fun n z => ⟨fun k h => (by cases h), k, h3, comp, h4⟩, ⟨k, comp, h3, h4, h1, h5⟩, va_AO.of h⟩
theorem asg_of {EN CN : String} {s : State} {A : Array Value} (h : (Cond.castable CN EN).before A s = true) : asg EN CN s := by
  obtain ⟨c, t, h1, h2, h3⟩ := Cond.castable_spec h
  intro comp c0 g1 g2
  have e1 := Option.some.inj (h1.symm.trans g2)
  have e2 := Option.some.inj (h2.symm.trans g1)
  subst e1
  subst e2
  exact h3
theorem asg_self {C : String} {cC : ClassId} {s : State} (h : ClassAt s C cC) : asg C C s := by
  intro comp c0 g1 g2
  have e1 := Option.some.inj (g1.symm.trans g2)
  have e2 := Option.some.inj (h.1.symm.trans g1)
  subst e1
  subst e2
  exact va_assign h
theorem asg_moved {EN CN : String} {s U : State} (hvm : s.vm.Alike U.vm) (h : asg EN CN s) : asg EN CN U := by
  intro comp c0 g1 g2
  rw [hvm.findClass] at g1 g2
  rw [hvm.assignable]
  exact h comp c0 g1 g2
theorem aoN_moved {CN : String} {c : ClassId} {s U : State} (hvm : s.vm.Alike U.vm) (h : aoN CN c s) : aoN CN c U := ⟨by rw [hvm.findClass]; exact h.1, h.2.moved hvm⟩
theorem yHU_moved {q : Nat → ClassId} {s U : State} (hvm : s.vm.Alike U.vm) (h : yHU q s) : yHU q U := by
  obtain ⟨h1, h2, h3, h4, h5, g1, g2, g3, g4, g5, g6, g7, g8, g9⟩ := h
  exact ⟨by rw [hvm.findClass]; exact h1, aoN_moved hvm h2, aoN_moved hvm h3, aoN_moved hvm h4, aoN_moved hvm h5, asg_moved hvm g1, asg_moved hvm g2, asg_moved hvm g3, asg_moved hvm g4, asg_moved hvm g5, asg_moved hvm g6, asg_moved hvm g7, asg_moved hvm g8, asg_moved hvm g9⟩
theorem iuF_moved {s U : State} (hW : s.WarmedH U.vm) (h : iuF s) : iuF U := ⟨fun q hq => (h.1 q hq).moved hW.alike, fun q hq => va_Nw.warmC hW (h.2.1 q hq), fun q hq => by
  obtain ⟨c, hc⟩ := h.2.2 q hq
  exact ⟨c, classAt_moved hW.alike hc⟩⟩
theorem stS_moved {v : Value} {s U : State} {H H1 : Heap} (hW : s.WarmedH U.vm) (hq : ∀ a : Nat, a < H.size → H1[a]? = H[a]?) (h : stS v s H) : stS v U H1 := ⟨(h.1.moved hW.alike).kept (fun a g _ => hq a g), (h.2.moved hW.alike).kept (fun a g _ => hq a g)⟩
theorem stT_moved {q a N : Nat} {f : Nat → Value} {s U : State} {H H1 : Heap} (hW : s.WarmedH U.vm) (hq : ∀ a : Nat, a < H.size → H1[a]? = H[a]?) (h : stT q a N f s H) : stT q a N f U H1 := ⟨(h.1.moved hW.alike).kept (fun a g _ => hq a g), (h.2.1.moved hW.alike).kept (fun a g _ => hq a g), (h.2.2.1.moved hW.alike).kept (fun a g _ => hq a g), (h.2.2.2.moved hW.alike).kept (fun a g _ => hq a g)⟩
/-- all that is said of the machine, and of the two texts -/
def xAll (q : Nat → ClassId) (v : Value) (q1 a1 q2 a2 : Nat) (U : State) (H : Heap) : Prop := yHU q U ∧ U.vm.findClass "[Z" = some (q 1) ∧ iuF U ∧ txF v q1 a1 U H ∧ txW v q2 a2 U H
theorem xAll_moved {q : Nat → ClassId} {v : Value} {q1 a1 q2 a2 : Nat} {s U : State} {H H1 : Heap} (hW : s.WarmedH U.vm) (hq : ∀ a : Nat, a < H.size → H1[a]? = H[a]?) (h : xAll q v q1 a1 q2 a2 s H) : xAll q v q1 a1 q2 a2 U H1 := by
  obtain ⟨h1, h2, h3, ⟨h4, h5, h6⟩, ⟨h7, h8, h9⟩⟩ := h
  exact ⟨yHU_moved hW.alike h1, by rw [hW.alike.findClass]; exact h2, iuF_moved hW h3, ⟨stS_moved hW hq h4, stT_moved hW hq h5, vk_R.warm hW h6⟩, ⟨stS_moved hW hq h7, stT_moved hW hq h8, vk_R.warm hW h9⟩⟩
set_option maxHeartbeats 1000000 in
theorem kn_all {s : State} {A : Array Value} (hts : ∀ w ∈ wsL_law, w.before A s = true) : ∃ D : va_G, ∀ (c : Nat) (q : vw_C), vwCl[c]? = some q → u_Kn s q.1 q.2.1 q.2.2 (D.1 c) (D.2 c) := by
  have h : ∀ c : Nat, ∃ x : ClassId × (Nat → Nat), ∀ q : vw_C, vwCl[c]? = some q → u_Kn s q.1 q.2.1 q.2.2 x.1 x.2 := by
    intro c
    match c with
    | 0 =>
      obtain ⟨a, b, h⟩ := u_known (C := RX0) (T := TX0) (N := 1) (n := 1) hts inlX0 (hts _ q2_11)
      exact ⟨(a, b), fun q hq => by
        have e := Option.some.inj (hq.symm.trans (rfl : vwCl[0]? = some (RX0, TX0, 1)))
        subst e
        exact h⟩
    | 1 =>
      obtain ⟨a, b, h⟩ := u_known (C := RX1) (T := TX1) (N := 1) (n := 1) hts inlX1 (hts _ q2_14)
      exact ⟨(a, b), fun q hq => by
        have e := Option.some.inj (hq.symm.trans (rfl : vwCl[1]? = some (RX1, TX1, 1)))
        subst e
        exact h⟩
    | 2 =>
      obtain ⟨a, b, h⟩ := u_known (C := RX2) (T := TX2) (N := 6) (n := 6) hts inlX2 (hts _ q3_5)
      exact ⟨(a, b), fun q hq => by
        have e := Option.some.inj (hq.symm.trans (rfl : vwCl[2]? = some (RX2, TX2, 6)))
        subst e
        exact h⟩
    | 3 =>
      obtain ⟨a, b, h⟩ := u_known (C := RX3) (T := TX3) (N := 1) (n := 1) hts inlX3 (hts _ q2_8)
      exact ⟨(a, b), fun q hq => by
        have e := Option.some.inj (hq.symm.trans (rfl : vwCl[3]? = some (RX3, TX3, 1)))
        subst e
        exact h⟩
    | 4 =>
      obtain ⟨a, b, h⟩ := u_known (C := RX4) (T := TX4) (N := 1) (n := 1) hts inlX4 (hts _ q2_17)
      exact ⟨(a, b), fun q hq => by
        have e := Option.some.inj (hq.symm.trans (rfl : vwCl[4]? = some (RX4, TX4, 1)))
        subst e
        exact h⟩
    | 5 =>
      obtain ⟨a, b, h⟩ := u_known (C := RX5) (T := TX5) (N := 1) (n := 1) hts inlX5 (hts _ q2_23)
      exact ⟨(a, b), fun q hq => by
        have e := Option.some.inj (hq.symm.trans (rfl : vwCl[5]? = some (RX5, TX5, 1)))
        subst e
        exact h⟩
    | 6 =>
      obtain ⟨a, b, h⟩ := u_known (C := RX6) (T := TX6) (N := 6) (n := 6) hts inlX6 (hts _ q3_1)
      exact ⟨(a, b), fun q hq => by
        have e := Option.some.inj (hq.symm.trans (rfl : vwCl[6]? = some (RX6, TX6, 6)))
        subst e
        exact h⟩
    | 7 =>
      obtain ⟨a, b, h⟩ := u_known (C := RX7) (T := TX7) (N := 1) (n := 1) hts inlX7 (hts _ q2_20)
      exact ⟨(a, b), fun q hq => by
        have e := Option.some.inj (hq.symm.trans (rfl : vwCl[7]? = some (RX7, TX7, 1)))
        subst e
        exact h⟩
    | 8 =>
      obtain ⟨a, b, h⟩ := u_known (C := RX8) (T := TX8) (N := 3) (n := 3) hts inlX8 (hts _ q3_3)
      exact ⟨(a, b), fun q hq => by
        have e := Option.some.inj (hq.symm.trans (rfl : vwCl[8]? = some (RX8, TX8, 3)))
        subst e
        exact h⟩
    | 9 =>
      obtain ⟨a, b, h⟩ := u_known (C := RX9) (T := TX9) (N := 7) (n := 7) hts inlX9 (hts _ q1_19)
      exact ⟨(a, b), fun q hq => by
        have e := Option.some.inj (hq.symm.trans (rfl : vwCl[9]? = some (RX9, TX9, 7)))
        subst e
        exact h⟩
    | 10 =>
      obtain ⟨a, b, h⟩ := u_known (C := RX10) (T := TX10) (N := 4) (n := 4) hts inlX10 (hts _ q1_23)
      exact ⟨(a, b), fun q hq => by
        have e := Option.some.inj (hq.symm.trans (rfl : vwCl[10]? = some (RX10, TX10, 4)))
        subst e
        exact h⟩
    | 11 =>
      obtain ⟨a, b, h⟩ := u_known (C := RX11) (T := TX11) (N := 10) (n := 10) hts inlX11 (hts _ q1_1)
      exact ⟨(a, b), fun q hq => by
        have e := Option.some.inj (hq.symm.trans (rfl : vwCl[11]? = some (RX11, TX11, 10)))
        subst e
        exact h⟩
    | 12 =>
      obtain ⟨a, b, h⟩ := u_known (C := RX12) (T := TX12) (N := 40) (n := 40) hts inlX12 (hts _ q1_4)
      exact ⟨(a, b), fun q hq => by
        have e := Option.some.inj (hq.symm.trans (rfl : vwCl[12]? = some (RX12, TX12, 40)))
        subst e
        exact h⟩
    | c + 13 => exact ⟨((0 : Nat), fun _ => 0), fun q hq => absurd (List.getElem?_eq_some_iff.mp hq).1 (by show ¬ c + 13 < 13; omega)⟩
  obtain ⟨x, hx⟩ := Classical.axiomOfChoice h
  exact ⟨(fun c => (x c).1, fun c => (x c).2), hx⟩
theorem nest_tb : ∀ w ∈ lw_nest, w ∈ lw_tbl := tb_mem [109, 115, 172, 275, 277, 294, 479, 620, 666, 689] (by decide +kernel)
theorem nest_on : ∀ w ∈ lw_nest, w.onTables = true := by decide +kernel
theorem iuN_in : ∀ q ∈ iuN, Cond.not (.castable q.1 q.2) ∈ flatC (Jvm.Cond.and given_1 narrow_1) := by decide +kernel
theorem el_0 : ∀ j, j < 46 → Cond.eq (.elem (.field (.string RX11 82) "java/lang/String" "value" "[B") (.int (Int32.ofNat j))) (.int (frL.getD j 0)) ∈ flatC (Jvm.Cond.and given_1 narrow_1) := by decide +kernel
theorem el_1 : ∀ j, j < 60 → Cond.eq (.elem (.field (.string RX9 85) "java/lang/String" "value" "[B") (.int (Int32.ofNat j))) (.int (wbL.getD j 0)) ∈ flatC (Jvm.Cond.and given_1 narrow_1) := by decide +kernel
