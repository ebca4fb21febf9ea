/-! THE PARSER of the class -/
def Tf (A B : MM) : Prop := ∀ a b, (a = 5 → b < 3 ∨ 6 < b) → (a = 49 → b ≠ 4) → a ≠ 50 → B a b = A a b
/-- the steps so far -/
def Sl (z : List Int32) (M : MM) : Prop := M (19 + 5 * 6) 4 = nI z.length ∧ ∀ i, i < z.length → M (20 + 5 * 6) i = z.getD i 0
def PM (Y : Nat → Int32) (n : Nat) (z : List Int32) (R : PR) (A B : MM) : Prop := TY Y n B ∧ Tk Y n R.2.1 B ∧ (∃ k, k ≤ 160 ∧ B (19 + 5 * 6) 4 = nI k) ∧ (R.1 = true → Sl (z ++ R.2.2.1) B) ∧ Tf A B
def PMf (Y : Nat → Int32) (n : Nat) (z : List Int32) (R : PR) (A : MM) : XF := fun r B => r = some (.int (b2i R.1)) ∧ PM Y n z R A B
theorem Tf.rf {A : MM} : Tf A A := fun _ _ _ _ _ => rfl
theorem Tf.tr {A B D : MM} (h1 : Tf A B) (h2 : Tf B D) : Tf A D := fun a b x y z => (h2 a b x y z).trans (h1 a b x y z)
theorem Tf.a {A B : MM} (h : ∀ a b, (a ≠ 5 ∨ b < 3 ∨ 6 < b) → B a b = A a b) : Tf A B := fun a b x _ _ => h a b (by omega)
theorem sl_fr {z : List Int32} {A B : MM} (h : Sl z A) (hM : ∀ a b, (a ≠ 5 ∨ b < 3 ∨ 6 < b) → B a b = A a b) : Sl z B := ⟨(hM _ _ (by omega)).trans h.1, fun i hi => (hM _ _ (by omega)).trans (h.2 i hi)⟩
theorem PM.F {Y : Nat → Int32} {n x : Nat} {z : List Int32} {A : MM} {r : PR} (h1 : TY Y n A) (h2 : Tk Y n x A) (h3 : ∃ k, k ≤ 160 ∧ A (19 + 5 * 6) 4 = nI k) (hx : r.2.1 = x) (hr : r.1 = false) : PM Y n z r A A := ⟨h1, by rw [hx]; exact h2, h3, (fun h => by rw [hr] at h; cases h), Tf.rf⟩
/-- what a step more leaves -/
def adM (M : MM) (k : Nat) (s : Int32) : MM := if k < 160 then mu (mu M (20 + 5 * 6) k s) (19 + 5 * 6) 4 (nI (k + 1)) else M
theorem adM_o (M : MM) (k : Nat) (s : Int32) {a b : Nat} (h : a ≠ 50) (h2 : a ≠ 49 ∨ b ≠ 4) : adM M k s a b = M a b := by
  unfold adM
  split
  · rw [mu_at, if_neg (by omega), mu_n _ _ _ _ (by omega)]
  · rfl
theorem adM_k (M : MM) {k : Nat} (s : Int32) (hk : k ≤ 160) (h : M (19 + 5 * 6) 4 = nI k) : ∃ j, j ≤ 160 ∧ adM M k s (19 + 5 * 6) 4 = nI j := by
  unfold adM
  split
  · exact ⟨k + 1, by omega, mu_s _ _ _ _⟩
  · exact ⟨k, hk, h⟩
theorem sl_add {z : List Int32} {M : MM} {k : Nat} {s : Int32} (h : Sl z M) (hz : z.length < 160) (hk : M (19 + 5 * 6) 4 = nI k) (hk2 : k ≤ 160) : Sl (z ++ [s]) (adM M k s) := by
  have e : k = z.length := (nI_eq (by omega) (by omega)).mp (hk.symm.trans h.1)
  subst e
  unfold adM
  rw [if_pos hz]
  refine ⟨?_, fun i hi => ?_⟩
  · rw [mu_s, List.length_append]; rfl
  · rw [List.length_append] at hi
    rw [mu_n _ _ _ _ (by decide), List.getD_eq_getElem?_getD]
    by_cases g : i = z.length
    · subst g
      rw [mu_s, List.getElem?_append_right (Nat.le_refl _), Nat.sub_self]
      rfl
    · have hi2 : i < z.length := by
        have : [s].length = 1 := rfl
        omega
      rw [mu_k _ _ _ _ g, h.2 i hi2, List.getElem?_append_left hi2, ← List.getD_eq_getElem?_getD]
theorem tk_fr {Y : Nat → Int32} {n x : Nat} {A B : MM} (h : Tk Y n x A) (hM : ∀ b, B 5 b = A 5 b) : Tk Y n x B := ⟨(hM _).trans h.1, (hM _).trans h.2.1, (hM _).trans h.2.2.1, fun g => (hM _).trans (h.2.2.2 g)⟩
theorem pm_add {Y : Nat → Int32} {n : Nat} {z : List Int32} {R R' : PR} {A B : MM} {k : Nat} {s : Int32} (h : PM Y n z R A B) (hk2 : k ≤ 160) (hk : B (19 + 5 * 6) 4 = nI k) (h1 : R'.1 = R.1) (h2 : R'.2.1 = R.2.1) (h3 : R'.2.2.1 = R.2.2.1 ++ [s]) (hl : R.1 = true → z.length + R.2.2.1.length < 160) : PM Y n z R' A (adM B k s) := by
  obtain ⟨a1, a2, a3, a4, a5⟩ := h
  refine ⟨⟨a1.1, (adM_o B k s (by decide) (by decide)).trans a1.2.1, fun i hi => (adM_o B k s (by decide) (by omega)).trans (a1.2.2 i hi)⟩, by rw [h2]; exact tk_fr a2 (fun b => adM_o B k s (by decide) (by omega)), adM_k B s hk2 hk, fun hr => ?_, fun a b x y w => (adM_o B k s w (by omega)).trans (a5 a b x y w)⟩
  rw [h3, ← List.append_assoc]
  refine sl_add (a4 (h1 ▸ hr)) ?_ hk hk2
  rw [List.length_append]
  exact hl (h1 ▸ hr)
theorem PG_jn {Y : Nat → Int32} {n l N x : Nat} {nxt : Nat → PR} {a : PR} (hn : ∀ y, y ≤ n → PG n N y (nxt y)) (h : PG n (N + 1) x a) (ht : a.1 = true) (hs : ¬ stp l (tkK Y n a.2.1) = -1) : PG n (N + 1) x (pJn (stp l (tkK Y n a.2.1)) a (nxt (tkE Y n a.2.1))) := by
  have := PG_chn (Y := Y) (l := l) hn 1 a h
  rwa [chn, if_neg (by rw [ht]; exact fun e => e.elim (fun e => by cases e) hs), chn] at this
set_option maxRecDepth 100000 in
set_option maxHeartbeats 800000 in
theorem c_X9_stepOn (t : CT) (M : MM) {k0 : Int32} (hk : M 5 5 = k0) {l : Nat} (hl : l ≤ 5) : XMet (wC t) yX9_stepOn cX9_stepOn 2 (some .int) 1 [.ref (t.1 5), .int (nI l)] M (rI (stp l k0) M) := by
  refine x_met RX9 (by decide) rfl (Nat.le_of_ble_eq_true rfl) (fun κ C X E => ?_)
  refine x_L (L' := [(0, .ref (t.1 5)), (1, .int (nI l))]) rfl ?_
  refine x_aload_n (pc := 0) C 0 dX9_stepOn_0 rfl ?_
  refine g_Tape_token (pc := 1) C E q8_5 dX9_stepOn_1 ?_
  refine x_eq (show M 5 5 = k0 from hk) ?_
  refine x_top (fun k ek => ?_)
  by_cases g7 : k = 7
  · subst g7
    refine x_lookup (pc := 4) C 72 dX9_stepOn_4 (by decide) (off := 68) (by decide) (by decide) ?_
    refine x_iload_n (pc := 72) C 1 dX9_stepOn_72 rfl ?_
    refine x_if_ne (pc := 73) C 81 dX9_stepOn_73 (by decide) (fun h73 => ?_) (fun h73 => ?_)
    · refine x_iconst (pc := 81) (v := (-1)) C dX9_stepOn_81 rfl ?_
      exact x_iret (pc := 82) C X dX9_stepOn_82 ⟨by rw [← ek]; unfold stp; rw [if_pos rfl, if_neg (fun e => h73 (by subst e; rfl))], rfl⟩
    · refine x_bipush (pc := 76) (v := (-15)) C dX9_stepOn_76 rfl ?_
      refine x_goto (pc := 78) C 82 dX9_stepOn_78 (by decide) ?_
      exact x_iret (pc := 82) C X dX9_stepOn_82 ⟨by rw [← ek]; unfold stp; rw [if_pos rfl, if_pos ((nI_eq (a := l) (b := 0) (by omega) (by omega)).mp h73)], rfl⟩
  by_cases g8 : k = 8
  · subst g8
    refine x_lookup (pc := 4) C 83 dX9_stepOn_4 (by decide) (off := 79) (by decide) (by decide) ?_
    refine x_iload_n (pc := 83) C 1 dX9_stepOn_83 rfl ?_
    refine x_iconst (pc := 84) (v := (nI 1)) C dX9_stepOn_84 (by decide) ?_
    refine x_icmp_ne (pc := 85) C 93 dX9_stepOn_85 (by decide) (fun h85 => ?_) (fun h85 => ?_)
    · refine x_iconst (pc := 93) (v := (-1)) C dX9_stepOn_93 rfl ?_
      exact x_iret (pc := 94) C X dX9_stepOn_94 ⟨by rw [← ek]; unfold stp; rw [if_neg (by decide), if_pos rfl, if_neg (fun e => h85 (by subst e; rfl))], rfl⟩
    · refine x_bipush (pc := 88) (v := (-14)) C dX9_stepOn_88 rfl ?_
      refine x_goto (pc := 90) C 94 dX9_stepOn_90 (by decide) ?_
      exact x_iret (pc := 94) C X dX9_stepOn_94 ⟨by rw [← ek]; unfold stp; rw [if_neg (by decide), if_pos rfl, if_pos ((nI_eq (a := l) (b := 1) (by omega) (by omega)).mp h85)], rfl⟩
  by_cases g42 : k = 42
  · subst g42
    refine x_lookup (pc := 4) C 143 dX9_stepOn_4 (by decide) (off := 139) (by decide) (by decide) ?_
    refine x_iload_n (pc := 143) C 1 dX9_stepOn_143 rfl ?_
    refine x_iconst (pc := 144) (v := (nI 4)) C dX9_stepOn_144 (by decide) ?_
    refine x_icmp_ne (pc := 145) C 153 dX9_stepOn_145 (by decide) (fun h145 => ?_) (fun h145 => ?_)
    · refine x_iconst (pc := 153) (v := (-1)) C dX9_stepOn_153 rfl ?_
      exact x_iret (pc := 154) C X dX9_stepOn_154 ⟨by rw [← ek]; unfold stp; rw [if_neg (by decide), if_neg (by decide), if_pos rfl, if_neg (fun e => h145 (by subst e; rfl))], rfl⟩
    · refine x_bipush (pc := 148) (v := (-9)) C dX9_stepOn_148 rfl ?_
      refine x_goto (pc := 150) C 154 dX9_stepOn_150 (by decide) ?_
      exact x_iret (pc := 154) C X dX9_stepOn_154 ⟨by rw [← ek]; unfold stp; rw [if_neg (by decide), if_neg (by decide), if_pos rfl, if_pos ((nI_eq (a := l) (b := 4) (by omega) (by omega)).mp h145)], rfl⟩
  by_cases g43 : k = 43
  · subst g43
    refine x_lookup (pc := 4) C 119 dX9_stepOn_4 (by decide) (off := 115) (by decide) (by decide) ?_
    refine x_iload_n (pc := 119) C 1 dX9_stepOn_119 rfl ?_
    refine x_iconst (pc := 120) (v := (nI 3)) C dX9_stepOn_120 (by decide) ?_
    refine x_icmp_ne (pc := 121) C 129 dX9_stepOn_121 (by decide) (fun h121 => ?_) (fun h121 => ?_)
    · refine x_iconst (pc := 129) (v := (-1)) C dX9_stepOn_129 rfl ?_
      exact x_iret (pc := 130) C X dX9_stepOn_130 ⟨by rw [← ek]; unfold stp; rw [if_neg (by decide), if_neg (by decide), if_neg (by decide), if_pos rfl, if_neg (fun e => h121 (by subst e; rfl))], rfl⟩
    · refine x_bipush (pc := 124) (v := (-10)) C dX9_stepOn_124 rfl ?_
      refine x_goto (pc := 126) C 130 dX9_stepOn_126 (by decide) ?_
      exact x_iret (pc := 130) C X dX9_stepOn_130 ⟨by rw [← ek]; unfold stp; rw [if_neg (by decide), if_neg (by decide), if_neg (by decide), if_pos rfl, if_pos ((nI_eq (a := l) (b := 3) (by omega) (by omega)).mp h121)], rfl⟩
  by_cases g45 : k = 45
  · subst g45
    refine x_lookup (pc := 4) C 131 dX9_stepOn_4 (by decide) (off := 127) (by decide) (by decide) ?_
    refine x_iload_n (pc := 131) C 1 dX9_stepOn_131 rfl ?_
    refine x_iconst (pc := 132) (v := (nI 3)) C dX9_stepOn_132 (by decide) ?_
    refine x_icmp_ne (pc := 133) C 141 dX9_stepOn_133 (by decide) (fun h133 => ?_) (fun h133 => ?_)
    · refine x_iconst (pc := 141) (v := (-1)) C dX9_stepOn_141 rfl ?_
      exact x_iret (pc := 142) C X dX9_stepOn_142 ⟨by rw [← ek]; unfold stp; rw [if_neg (by decide), if_neg (by decide), if_neg (by decide), if_neg (by decide), if_pos rfl, if_neg (fun e => h133 (by subst e; rfl))], rfl⟩
    · refine x_bipush (pc := 136) (v := (-11)) C dX9_stepOn_136 rfl ?_
      refine x_goto (pc := 138) C 142 dX9_stepOn_138 (by decide) ?_
      exact x_iret (pc := 142) C X dX9_stepOn_142 ⟨by rw [← ek]; unfold stp; rw [if_neg (by decide), if_neg (by decide), if_neg (by decide), if_neg (by decide), if_pos rfl, if_pos ((nI_eq (a := l) (b := 3) (by omega) (by omega)).mp h133)], rfl⟩
  by_cases g60 : k = 60
  · subst g60
    refine x_lookup (pc := 4) C 95 dX9_stepOn_4 (by decide) (off := 91) (by decide) (by decide) ?_
    refine x_iload_n (pc := 95) C 1 dX9_stepOn_95 rfl ?_
    refine x_iconst (pc := 96) (v := (nI 2)) C dX9_stepOn_96 (by decide) ?_
    refine x_icmp_ne (pc := 97) C 105 dX9_stepOn_97 (by decide) (fun h97 => ?_) (fun h97 => ?_)
    · refine x_iconst (pc := 105) (v := (-1)) C dX9_stepOn_105 rfl ?_
      exact x_iret (pc := 106) C X dX9_stepOn_106 ⟨by rw [← ek]; unfold stp; rw [if_neg (by decide), if_neg (by decide), if_neg (by decide), if_neg (by decide), if_neg (by decide), if_pos rfl, if_neg (fun e => h97 (by subst e; rfl))], rfl⟩
    · refine x_bipush (pc := 100) (v := (-12)) C dX9_stepOn_100 rfl ?_
      refine x_goto (pc := 102) C 106 dX9_stepOn_102 (by decide) ?_
      exact x_iret (pc := 106) C X dX9_stepOn_106 ⟨by rw [← ek]; unfold stp; rw [if_neg (by decide), if_neg (by decide), if_neg (by decide), if_neg (by decide), if_neg (by decide), if_pos rfl, if_pos ((nI_eq (a := l) (b := 2) (by omega) (by omega)).mp h97)], rfl⟩
  by_cases g61 : k = 61
  · subst g61
    refine x_lookup (pc := 4) C 107 dX9_stepOn_4 (by decide) (off := 103) (by decide) (by decide) ?_
    refine x_iload_n (pc := 107) C 1 dX9_stepOn_107 rfl ?_
    refine x_iconst (pc := 108) (v := (nI 2)) C dX9_stepOn_108 (by decide) ?_
    refine x_icmp_ne (pc := 109) C 117 dX9_stepOn_109 (by decide) (fun h109 => ?_) (fun h109 => ?_)
    · refine x_iconst (pc := 117) (v := (-1)) C dX9_stepOn_117 rfl ?_
      exact x_iret (pc := 118) C X dX9_stepOn_118 ⟨by rw [← ek]; unfold stp; rw [if_neg (by decide), if_neg (by decide), if_neg (by decide), if_neg (by decide), if_neg (by decide), if_neg (by decide), if_pos rfl, if_neg (fun e => h109 (by subst e; rfl))], rfl⟩
    · refine x_bipush (pc := 112) (v := (-13)) C dX9_stepOn_112 rfl ?_
      refine x_goto (pc := 114) C 118 dX9_stepOn_114 (by decide) ?_
      exact x_iret (pc := 118) C X dX9_stepOn_118 ⟨by rw [← ek]; unfold stp; rw [if_neg (by decide), if_neg (by decide), if_neg (by decide), if_neg (by decide), if_neg (by decide), if_neg (by decide), if_pos rfl, if_pos ((nI_eq (a := l) (b := 2) (by omega) (by omega)).mp h109)], rfl⟩
  refine x_lookup (pc := 4) C 155 dX9_stepOn_4 (by decide) (off := 151) (by show Op.lookupswitch.offset [(7, 68), (8, 79), (42, 139), (43, 115), (45, 127), (60, 91), (61, 103)] 151 k.toInt = 151; rw [lv_osw (a := 7) g7 rfl, lv_osw (a := 8) g8 rfl, lv_osw (a := 42) g42 rfl, lv_osw (a := 43) g43 rfl, lv_osw (a := 45) g45 rfl, lv_osw (a := 60) g60 rfl, lv_osw (a := 61) g61 rfl]; rfl) (by decide) ?_
  refine x_iconst (pc := 155) (v := (-1)) C dX9_stepOn_155 rfl ?_
  exact x_iret (pc := 156) C X dX9_stepOn_156 ⟨by rw [← ek]; unfold stp; rw [if_neg g7, if_neg g8, if_neg g42, if_neg g43, if_neg g45, if_neg g60, if_neg g61], rfl⟩

theorem pm_tok {Y : Nat → Int32} {n x : Nat} {z : List Int32} {R : PR} {M B : MM} {s : Int32} (hT : TY Y n M) (hTk : Tk Y n x M) (hS : Sl z M) (hzx : z.length ≤ x) (hxn : x ≤ n) (hk : tkK Y n x ≠ 0) (hB : Tk Y n (tkE Y n x) B) (hf : ∀ a b, (a ≠ 5 ∨ b < 3 ∨ 6 < b) → B a b = adM M z.length s a b) (h1 : R.1 = true) (h2 : R.2.1 = tkE Y n x) (h3 : R.2.2.1 = [s]) : PMf Y n z R M (some (.int 1)) B := by
  have ha := tk_adv (Y := Y) hxn hk
  have h160 := hT.1
  have hA := sl_add (s := s) hS (by omega) hS.1 (by omega)
  have hl : (z ++ [s]).length = z.length + 1 := List.length_append
  refine ⟨by rw [h1]; rfl, ⟨h160, ?_, fun i hi => ?_⟩, by rw [h2]; exact hB, ⟨z.length + 1, by omega, ?_⟩, fun _ => by rw [h3]; exact sl_fr hA hf, fun a b u v w => ?_⟩
  · rw [hf _ _ (by omega), adM_o _ _ _ (by decide) (by decide)]; exact hT.2.1
  · rw [hf _ _ (by omega), adM_o _ _ _ (by decide) (by omega)]; exact hT.2.2 i hi
  · rw [hf _ _ (by omega), hA.1, hl]
  · rw [hf _ _ (by omega), adM_o _ _ _ w (by omega)]
theorem pm_pre {Y : Nat → Int32} {n : Nat} {z : List Int32} {R : PR} {A B D : MM} (hf : ∀ a b, (a ≠ 5 ∨ b < 3 ∨ 6 < b) → B a b = A a b) (h : PM Y n z R B D) : PM Y n z R A D := ⟨h.1, h.2.1, h.2.2.1, h.2.2.2.1, (Tf.a hf).tr h.2.2.2.2⟩
theorem pm_post {Y : Nat → Int32} {n x : Nat} {z : List Int32} {r R : PR} {A B D : MM} (h : PM Y n z r A B) (hr : r.1 = true) (hD : Tk Y n x D) (hf : ∀ a b, (a ≠ 5 ∨ b < 3 ∨ 6 < b) → D a b = B a b) (h2 : R.2.1 = x) (h3 : R.2.2.1 = r.2.2.1) : PM Y n z R A D := by
  obtain ⟨a1, a2, ⟨k, hk, a3⟩, a4, a5⟩ := h
  exact ⟨ty_fr a1 hf, by rw [h2]; exact hD, ⟨k, hk, (hf _ _ (by omega)).trans a3⟩, fun _ => by rw [h3]; exact sl_fr (a4 hr) hf, a5.tr (Tf.a hf)⟩
theorem pm_fail {Y : Nat → Int32} {n : Nat} {z : List Int32} {r R : PR} {A B : MM} (h : PM Y n z r A B) (h1 : R.1 = false) (h2 : R.2.1 = r.2.1) : PM Y n z R A B := by
  obtain ⟨a1, a2, a3, a4, a5⟩ := h
  exact ⟨a1, by rw [h2]; exact a2, a3, (fun hr => by rw [h1] at hr; cases hr), a5⟩
theorem pm_0 {Y : Nat → Int32} {n x : Nat} {z : List Int32} {R : PR} {M : MM} (hT : TY Y n M) (hTk : Tk Y n x M) (hS : Sl z M) (hzx : z.length ≤ x) (hxn : x ≤ n) (h1 : R.1 = false) (h2 : R.2.1 = x) : PMf Y n z R M (some (.int 0)) M := by
  have h160 := hT.1
  exact ⟨by rw [h1]; rfl, hT, by rw [h2]; exact hTk, ⟨_, by omega, hS.1⟩, (fun hr => by rw [h1] at hr; cases hr), Tf.rf⟩
theorem b2iE {r : Option Value} {b b' : Bool} (h : r = some (.int (b2i b))) (e : b' = b) : r = some (.int (b2i b')) := by rw [h, e]
set_option maxRecDepth 100000 in
set_option maxHeartbeats 800000 in
theorem c_X9_readOne (t : CT) {v : Value} {q a : Nat} (hX : ∀ U H, t.2.2.2 U H → txW v q a U H) (hv : v = .null ∨ ∃ z, v = .ref z) {Y : Nat → Int32} {n : Nat} {g : Nat} (hg : g ≤ 5) {g0 : Bool} (h0 : g0 = decide (g = 0)) {sub : Nat → Nat → PR} (hO : g0 = false → (∀ (M : MM) (z : List Int32) (x : Nat), TY Y n M → Tk Y n x M → Sl z M → z.length ≤ x → x ≤ n → XMet (wC t) yX9_readOne cX9_readOne 4 (some .boolean) (10 + 10 * (g - 1)) [.ref (t.1 5), .int (nI (5 - (g - 1)))] M (PMf Y n z (sub 0 x) M))) (hL5 : g0 = false → (∀ (M : MM) (z : List Int32) (x : Nat), TY Y n M → Tk Y n x M → Sl z M → z.length ≤ x → x ≤ n → XMet (wC t) yX9_readLevel cX9_readLevel 7 (some .boolean) (16 + 10 * (g - 1)) [.ref (t.1 5), .int (nI (0)), .int (nI (5 - (g - 1)))] M (PMf Y n z (sub 5 x) M))) (hPG : g0 = false → ∀ y, y ≤ n → ∃ N, PG n N y (sub 0 y) ∧ PG n N y (sub 5 y) ∧ PG n N y (sub 3 y)) (M : MM) (z : List Int32) (x : Nat) (hT : TY Y n M) (hTk : Tk Y n x M) (hS : Sl z M) (hzx : z.length ≤ x) (hxn : x ≤ n) : XMet (wC t) yX9_readOne cX9_readOne 4 (some .boolean) (10 + 10 * g) [.ref (t.1 5), .int (nI (5 - g))] M (PMf Y n z (pOne Y n g0 sub x) M) := by
  refine x_met RX9 (by decide) rfl (Nat.le_of_ble_eq_true rfl) (fun κ C X E => ?_)
  refine x_L (L' := [(0, .ref (t.1 5)), (1, .int (nI (5 - g)))]) rfl ?_
  have h160 := hT.1
  refine x_aload_n (pc := 0) C 0 dX9_readOne_0 rfl ?_
  refine g_Tape_token (pc := 1) C E q8_5 dX9_readOne_1 ?_
  refine x_eq (show M 5 5 = tkK Y n x from hTk.2.2.1) ?_
  refine x_iconst (pc := 4) (v := 2) C dX9_readOne_4 rfl ?_
  refine x_icmp_eq (pc := 5) C 16 dX9_readOne_5 (by decide) (fun h5 => ?_) (fun h5 => ?_)
  · refine x_aload_n (pc := 16) C 0 dX9_readOne_16 rfl ?_
    refine g_Tape_rule (pc := 17) C E q3_14 dX9_readOne_17 ?_
    refine x_aload_n (pc := 20) C 0 dX9_readOne_20 rfl ?_
    refine g_Tape_token (pc := 21) C E q8_5 dX9_readOne_21 ?_
    refine x_eq (show M 5 5 = tkK Y n x from hTk.2.2.1) ?_
    refine x_iconst (pc := 24) (v := 2) C dX9_readOne_24 rfl ?_
    refine x_icmp_ne_f (pc := 25) C 35 dX9_readOne_25 (by decide) h5 ?_
    refine x_aload_n (pc := 28) C 0 dX9_readOne_28 rfl ?_
    refine g_Tape_value (pc := 29) C E q8_23 dX9_readOne_29 ?_
    refine x_eq (show M 5 6 = tkV Y n x from hTk.2.2.2 (Or.inl h5)) ?_
    refine x_goto (pc := 32) C 41 dX9_readOne_32 (by decide) ?_
    have hl0 : z.length < 160 := by have := tk_adv (Y := Y) hxn (by rw [h5]; decide); omega
    refine x_callV (pc := 41) C E [.int (tkV Y n x)] [] (c_X6_add t _ (q := 6) (by decide) hS.1 (by omega) _) m_X6_add q10_10 (xo_Rule (q := 6) (by decide)) rfl (by omega) (Nat.le_of_ble_eq_true rfl) dX9_readOne_41 rfl (k_U ?_)
    refine x_M (M' := adM M z.length (tkV Y n x)) rfl ?_
    have hA : PM Y n z (true, x, [tkV Y n x], fun _ => 0) M (adM M z.length (tkV Y n x)) := ⟨⟨hT.1, (adM_o _ _ _ (by decide) (by decide)).trans hT.2.1, fun i hi => (adM_o _ _ _ (by decide) (by omega)).trans (hT.2.2 i hi)⟩, tk_fr hTk (fun b => adM_o _ _ _ (by decide) (by omega)), adM_k _ _ (by omega) hS.1, fun _ => sl_add hS hl0 hS.1 (by omega), fun a b x y w => adM_o _ _ _ w (by omega)⟩
    refine x_aload_n (pc := 44) C 0 dX9_readOne_44 rfl ?_
    have ha45 := tk_adv (Y := Y) hxn (by rw [h5]; decide)
    refine x_callV (pc := 45) C E [] [] (c_X9_advance t _ hX hv hA.1 (x := tkE Y n (x)) hA.2.1.2.1 ha45.2) m_X9_advance q8_12 xo_Tape rfl (by omega) (Nat.le_of_ble_eq_true rfl) dX9_readOne_45 rfl (fun r M45 hc45 => ?_)
    obtain ⟨rfl, hk45, hf45⟩ := hc45
    show XV κ (xP (wC t) M45) 48 _ []
    have hT45 := ty_fr hA.1 hf45
    refine x_iconst (pc := 48) (v := 1) C dX9_readOne_48 rfl ?_
    exact x_bret (pc := 49) C X (b := true) rfl dX9_readOne_49 (by have eR : pOne Y n g0 sub x = (true, tkE Y n x, [tkV Y n x], fun _ => tkV Y n x) := (by unfold pOne; rw [if_pos h5]); rw [eR]; exact pm_tok hT hTk hS hzx hxn (by rw [h5]; decide) hk45 hf45 rfl rfl rfl)
  · refine x_aload_n (pc := 8) C 0 dX9_readOne_8 rfl ?_
    refine g_Tape_token (pc := 9) C E q8_5 dX9_readOne_9 ?_
    refine x_eq (show M 5 5 = tkK Y n x from hTk.2.2.1) ?_
    refine x_iconst (pc := 12) (v := 3) C dX9_readOne_12 rfl ?_
    refine x_icmp_ne (pc := 13) C 50 dX9_readOne_13 (by decide) (fun h13 => ?_) (fun h13 => ?_)
    · refine x_aload_n (pc := 50) C 0 dX9_readOne_50 rfl ?_
      refine g_Tape_token (pc := 51) C E q8_5 dX9_readOne_51 ?_
      refine x_eq (show M 5 5 = tkK Y n x from hTk.2.2.1) ?_
      refine x_bipush (pc := 54) (v := 40) C dX9_readOne_54 rfl ?_
      refine x_icmp_eq (pc := 56) C 68 dX9_readOne_56 (by decide) (fun h56 => ?_) (fun h56 => ?_)
      · refine x_iload_n (pc := 68) C 1 dX9_readOne_68 rfl ?_
        refine x_iconst (pc := 69) (v := (nI 5)) C dX9_readOne_69 (by decide) ?_
        refine x_icmp_lt (pc := 70) C 75 dX9_readOne_70 (by decide) (fun h70 => ?_) (fun h70 => ?_)
        · refine x_aload_n (pc := 75) C 0 dX9_readOne_75 rfl ?_
          refine g_Tape_token (pc := 76) C E q8_5 dX9_readOne_76 ?_
          refine x_eq (show M 5 5 = tkK Y n x from hTk.2.2.1) ?_
          refine x_bipush (pc := 79) (v := 40) C dX9_readOne_79 rfl ?_
          refine x_icmp_ne_f (pc := 81) C 88 dX9_readOne_81 (by decide) h56 ?_
          refine x_iconst (pc := 84) (v := 1) C dX9_readOne_84 rfl ?_
          refine x_goto (pc := 85) C 89 dX9_readOne_85 (by decide) ?_
          refine x_istore_n (pc := 89) (L' := [(2, .int 1), (0, .ref (t.1 5)), (1, .int (nI (5 - g)))]) C dX9_readOne_89 (by decide) rfl ?_
          have hgp : 0 < g := Nat.pos_of_ne_zero (fun e => absurd h70 (by rw [e]; decide))
          have hg0 : g0 = false := by rw [h0]; exact decide_eq_false (by omega)
          refine x_aload_n (pc := 90) C 1 dX9_readOne_90 rfl ?_
          have ha91 := tk_adv (Y := Y) hxn (by rw [h56]; decide)
          refine x_callV (pc := 91) C E [] [] (c_X9_advance t _ hX hv hT (x := tkE Y n (x)) hTk.2.1 ha91.2) m_X9_advance q8_12 xo_Tape rfl (by omega) (Nat.le_of_ble_eq_true rfl) dX9_readOne_91 rfl (fun r M91 hc91 => ?_)
          obtain ⟨rfl, hk91, hf91⟩ := hc91
          show XV κ (xP (wC t) M91) 94 _ []
          have hT91 := ty_fr hT hf91
          refine x_iload_n (pc := 94) C 0 dX9_readOne_94 rfl ?_
          refine x_if_ne_t (pc := 95) C 117 dX9_readOne_95 (by decide) (by decide) ?_
          refine x_aload_n (pc := 117) C 1 dX9_readOne_117 rfl ?_
          refine x_iconst (pc := 118) (v := 0) C dX9_readOne_118 rfl ?_
          refine x_iload_n (pc := 119) C 2 dX9_readOne_119 rfl ?_
          refine x_iconst (pc := 120) (v := (nI 1)) C dX9_readOne_120 (by decide) ?_
          refine x_iadd (pc := 121) C dX9_readOne_121 ?_
          refine x_eq (show (nI (5 - g)) + (nI 1) = nI (5 - (g - 1)) from (by rw [nI_add]; congr 1; omega)) ?_
          refine x_callV (pc := 122) C E [.int 0, .int (nI (5 - (g - 1)))] [] (hL5 hg0 _ z (tkE Y n x) hT91 hk91 (sl_fr hS hf91) (by have := ha91; omega) ha91.2) m_X9_readLevel q9_20 xo_Tape rfl (by omega) (Nat.le_of_ble_eq_true rfl) dX9_readOne_122 rfl (fun r M122 hc122 => ?_)
          obtain ⟨rfl, hP122⟩ := hc122
          obtain ⟨N, hN⟩ := hPG hg0 (tkE Y n x) ha91.2
          have hG := hN.2.1
          show XV κ (xP (wC t) M122) 125 _ [.int (b2i (sub 5 (tkE Y n x)).1)]
          refine x_ifb_eq (pc := 125) C 137 dX9_readOne_125 (by decide) (fun h125 => ?_) (fun h125 => ?_)
          · refine x_iconst (pc := 137) (v := 0) C dX9_readOne_137 rfl ?_
            exact x_bret (pc := 138) C X (b := false) rfl dX9_readOne_138 (by have eR : pOne Y n g0 sub x = pzF (sub 5 (tkE Y n x)).2.1 := (by unfold pOne; rw [if_neg h5, if_neg h13, if_neg (fun e => e.elim (fun e => e.1 h56) (fun e => by rw [hg0] at e; cases e)), if_pos h56]; unfold pCl; rw [if_pos h125]); rw [eR]; exact ⟨rfl, pm_pre hf91 (pm_fail hP122 rfl rfl)⟩)
          · refine x_aload_n (pc := 128) C 1 dX9_readOne_128 rfl ?_
            refine g_Tape_token (pc := 129) C E q8_5 dX9_readOne_129 ?_
            refine x_eq (show M122 5 5 = tkK Y n ((sub 5 (tkE Y n x)).2.1) from hP122.2.1.2.2.1) ?_
            refine x_bipush (pc := 132) (v := 41) C dX9_readOne_132 rfl ?_
            refine x_icmp_eq (pc := 134) C 139 dX9_readOne_134 (by decide) (fun h134 => ?_) (fun h134 => ?_)
            · refine x_aload_n (pc := 139) C 1 dX9_readOne_139 rfl ?_
              have ha140 := tk_adv (Y := Y) hG.1 (by rw [h134]; decide)
              refine x_callV (pc := 140) C E [] [] (c_X9_advance t _ hX hv hP122.1 (x := tkE Y n ((sub 5 (tkE Y n x)).2.1)) hP122.2.1.2.1 ha140.2) m_X9_advance q8_12 xo_Tape rfl (by omega) (Nat.le_of_ble_eq_true rfl) dX9_readOne_140 rfl (fun r M140 hc140 => ?_)
              obtain ⟨rfl, hk140, hf140⟩ := hc140
              show XV κ (xP (wC t) M140) 143 _ []
              have hT140 := ty_fr hP122.1 hf140
              refine x_iconst (pc := 143) (v := 1) C dX9_readOne_143 rfl ?_
              exact x_bret (pc := 144) C X (b := true) rfl dX9_readOne_144 (by have eR : pOne Y n g0 sub x = (true, tkE Y n (sub 5 (tkE Y n x)).2.1, (sub 5 (tkE Y n x)).2.2.1, (sub 5 (tkE Y n x)).2.2.2) := (by unfold pOne; rw [if_neg h5, if_neg h13, if_neg (fun e => e.elim (fun e => e.1 h56) (fun e => by rw [hg0] at e; cases e)), if_pos h56]; unfold pCl; rw [if_neg (by rw [h125]; decide), if_pos h134]); rw [eR]; exact ⟨rfl, pm_pre hf91 (pm_post hP122 h125 hk140 hf140 rfl rfl)⟩)
            · refine x_iconst (pc := 137) (v := 0) C dX9_readOne_137 rfl ?_
              exact x_bret (pc := 138) C X (b := false) rfl dX9_readOne_138 (by have eR : pOne Y n g0 sub x = pzF (sub 5 (tkE Y n x)).2.1 := (by unfold pOne; rw [if_neg h5, if_neg h13, if_neg (fun e => e.elim (fun e => e.1 h56) (fun e => by rw [hg0] at e; cases e)), if_pos h56]; unfold pCl; rw [if_neg (by rw [h125]; decide), if_neg h134]); rw [eR]; exact ⟨rfl, pm_pre hf91 (pm_fail hP122 rfl rfl)⟩)
        · refine x_iconst (pc := 73) (v := 0) C dX9_readOne_73 rfl ?_
          exact x_bret (pc := 74) C X (b := false) rfl dX9_readOne_74 (by have eR : pOne Y n g0 sub x = pzF x := (by unfold pOne; rw [if_neg h5, if_neg h13, if_pos (Or.inr (by rw [h0]; exact decide_eq_true (Decidable.byContradiction fun hg0 => h70 (nI_lt (show 5 - g < 5 by omega) (by decide)))))]); rw [eR]; exact pm_0 hT hTk hS hzx hxn rfl rfl)
      · refine x_aload_n (pc := 59) C 0 dX9_readOne_59 rfl ?_
        refine g_Tape_token (pc := 60) C E q8_5 dX9_readOne_60 ?_
        refine x_eq (show M 5 5 = tkK Y n x from hTk.2.2.1) ?_
        refine x_bipush (pc := 63) (v := 45) C dX9_readOne_63 rfl ?_
        refine x_icmp_ne (pc := 65) C 73 dX9_readOne_65 (by decide) (fun h65 => ?_) (fun h65 => ?_)
        · refine x_iconst (pc := 73) (v := 0) C dX9_readOne_73 rfl ?_
          exact x_bret (pc := 74) C X (b := false) rfl dX9_readOne_74 (by have eR : pOne Y n g0 sub x = pzF x := (by unfold pOne; rw [if_neg h5, if_neg h13, if_pos (Or.inl ⟨h56, h65⟩)]); rw [eR]; exact pm_0 hT hTk hS hzx hxn rfl rfl)
        · refine x_iload_n (pc := 68) C 1 dX9_readOne_68 rfl ?_
          refine x_iconst (pc := 69) (v := (nI 5)) C dX9_readOne_69 (by decide) ?_
          refine x_icmp_lt (pc := 70) C 75 dX9_readOne_70 (by decide) (fun h70 => ?_) (fun h70 => ?_)
          · refine x_aload_n (pc := 75) C 0 dX9_readOne_75 rfl ?_
            refine g_Tape_token (pc := 76) C E q8_5 dX9_readOne_76 ?_
            refine x_eq (show M 5 5 = tkK Y n x from hTk.2.2.1) ?_
            refine x_bipush (pc := 79) (v := 40) C dX9_readOne_79 rfl ?_
            refine x_icmp_ne_t (pc := 81) C 88 dX9_readOne_81 (by decide) h56 ?_
            refine x_iconst (pc := 88) (v := 0) C dX9_readOne_88 rfl ?_
            refine x_istore_n (pc := 89) (L' := [(2, .int 0), (0, .ref (t.1 5)), (1, .int (nI (5 - g)))]) C dX9_readOne_89 (by decide) rfl ?_
            have hgp : 0 < g := Nat.pos_of_ne_zero (fun e => absurd h70 (by rw [e]; decide))
            have hg0 : g0 = false := by rw [h0]; exact decide_eq_false (by omega)
            refine x_aload_n (pc := 90) C 1 dX9_readOne_90 rfl ?_
            have ha91 := tk_adv (Y := Y) hxn (by rw [h65]; decide)
            refine x_callV (pc := 91) C E [] [] (c_X9_advance t _ hX hv hT (x := tkE Y n (x)) hTk.2.1 ha91.2) m_X9_advance q8_12 xo_Tape rfl (by omega) (Nat.le_of_ble_eq_true rfl) dX9_readOne_91 rfl (fun r M91 hc91 => ?_)
            obtain ⟨rfl, hk91, hf91⟩ := hc91
            show XV κ (xP (wC t) M91) 94 _ []
            have hT91 := ty_fr hT hf91
            refine x_iload_n (pc := 94) C 0 dX9_readOne_94 rfl ?_
            refine x_if_ne_f (pc := 95) C 117 dX9_readOne_95 (by decide) rfl ?_
            refine x_aload_n (pc := 98) C 1 dX9_readOne_98 rfl ?_
            refine x_iload_n (pc := 99) C 2 dX9_readOne_99 rfl ?_
            refine x_iconst (pc := 100) (v := (nI 1)) C dX9_readOne_100 (by decide) ?_
            refine x_iadd (pc := 101) C dX9_readOne_101 ?_
            refine x_eq (show (nI (5 - g)) + (nI 1) = nI (5 - (g - 1)) from (by rw [nI_add]; congr 1; omega)) ?_
            refine x_callV (pc := 102) C E [.int (nI (5 - (g - 1)))] [] (hO hg0 _ z (tkE Y n x) hT91 hk91 (sl_fr hS hf91) (by have := ha91; omega) ha91.2) m_X9_readOne q10_0 xo_Tape rfl (by omega) (Nat.le_of_ble_eq_true rfl) dX9_readOne_102 rfl (fun r M102 hc102 => ?_)
            obtain ⟨rfl, hP102⟩ := hc102
            obtain ⟨N, hN⟩ := hPG hg0 (tkE Y n x) ha91.2
            have hG := hN.1
            show XV κ (xP (wC t) M102) 105 _ [.int (b2i (sub 0 (tkE Y n x)).1)]
            refine x_istore_n (pc := 105) (L' := [(3, .int (b2i (sub 0 (tkE Y n x)).1)), (2, .int 0), (0, .ref (t.1 5)), (1, .int (nI (5 - g)))]) C dX9_readOne_105 (by decide) rfl ?_
            refine x_aload_n (pc := 106) C 2 dX9_readOne_106 rfl ?_
            refine g_Tape_rule (pc := 107) C E q3_14 dX9_readOne_107 ?_
            refine x_bipush (pc := 110) (v := (-7)) C dX9_readOne_110 rfl ?_
            obtain ⟨j112, hj112, ej112⟩ := hP102.2.2.1
            refine x_callV (pc := 112) C E [.int (-7)] [] (c_X6_add t _ (q := 6) (by decide) ej112 hj112 _) m_X6_add q10_10 (xo_Rule (q := 6) (by decide)) rfl (by omega) (Nat.le_of_ble_eq_true rfl) dX9_readOne_112 rfl (k_U ?_)
            refine x_M (M' := adM M102 j112 (-7)) rfl ?_
            refine x_iload_n (pc := 115) C 0 dX9_readOne_115 rfl ?_
            exact x_bret (pc := 116) C X (b := (sub 0 (tkE Y n x)).1) rfl dX9_readOne_116 (by have eR : pOne Y n g0 sub x = pNeg (sub 0 (tkE Y n x)) := (by unfold pOne; rw [if_neg h5, if_neg h13, if_neg (fun e => e.elim (fun e => e.2 h65) (fun e => by rw [hg0] at e; cases e)), if_neg h56]); rw [eR]; exact ⟨rfl, pm_pre hf91 (pm_add (R' := pNeg (sub 0 (tkE Y n x))) hP102 hj112 ej112 rfl rfl rfl (fun hr => by have := (hG.2 hr).1; have := hG.1; have := ha91; have := hT.1; omega))⟩)
          · refine x_iconst (pc := 73) (v := 0) C dX9_readOne_73 rfl ?_
            exact x_bret (pc := 74) C X (b := false) rfl dX9_readOne_74 (by have eR : pOne Y n g0 sub x = pzF x := (by unfold pOne; rw [if_neg h5, if_neg h13, if_pos (Or.inr (by rw [h0]; exact decide_eq_true (Decidable.byContradiction fun hg0 => h70 (nI_lt (show 5 - g < 5 by omega) (by decide)))))]); rw [eR]; exact pm_0 hT hTk hS hzx hxn rfl rfl)
    · refine x_aload_n (pc := 16) C 0 dX9_readOne_16 rfl ?_
      refine g_Tape_rule (pc := 17) C E q3_14 dX9_readOne_17 ?_
      refine x_aload_n (pc := 20) C 0 dX9_readOne_20 rfl ?_
      refine g_Tape_token (pc := 21) C E q8_5 dX9_readOne_21 ?_
      refine x_eq (show M 5 5 = tkK Y n x from hTk.2.2.1) ?_
      refine x_iconst (pc := 24) (v := 2) C dX9_readOne_24 rfl ?_
      refine x_icmp_ne_t (pc := 25) C 35 dX9_readOne_25 (by decide) (fun e => by rw [h13] at e; exact absurd e (by decide)) ?_
      refine x_iconst (pc := 35) (v := (-1)) C dX9_readOne_35 rfl ?_
      refine x_aload_n (pc := 36) C 0 dX9_readOne_36 rfl ?_
      refine g_Tape_value (pc := 37) C E q8_23 dX9_readOne_37 ?_
      refine x_eq (show M 5 6 = tkV Y n x from hTk.2.2.2 (Or.inr h13)) ?_
      refine x_isub (pc := 40) C dX9_readOne_40 ?_
      have hl0 : z.length < 160 := by have := tk_adv (Y := Y) hxn (by rw [h13]; decide); omega
      refine x_callV (pc := 41) C E [.int ((-1) - (tkV Y n x))] [] (c_X6_add t _ (q := 6) (by decide) hS.1 (by omega) _) m_X6_add q10_10 (xo_Rule (q := 6) (by decide)) rfl (by omega) (Nat.le_of_ble_eq_true rfl) dX9_readOne_41 rfl (k_U ?_)
      refine x_M (M' := adM M z.length ((-1) - (tkV Y n x))) rfl ?_
      have hA : PM Y n z (true, x, [(-1) - (tkV Y n x)], fun _ => 0) M (adM M z.length ((-1) - (tkV Y n x))) := ⟨⟨hT.1, (adM_o _ _ _ (by decide) (by decide)).trans hT.2.1, fun i hi => (adM_o _ _ _ (by decide) (by omega)).trans (hT.2.2 i hi)⟩, tk_fr hTk (fun b => adM_o _ _ _ (by decide) (by omega)), adM_k _ _ (by omega) hS.1, fun _ => sl_add hS hl0 hS.1 (by omega), fun a b x y w => adM_o _ _ _ w (by omega)⟩
      refine x_aload_n (pc := 44) C 0 dX9_readOne_44 rfl ?_
      have ha45 := tk_adv (Y := Y) hxn (by rw [h13]; decide)
      refine x_callV (pc := 45) C E [] [] (c_X9_advance t _ hX hv hA.1 (x := tkE Y n (x)) hA.2.1.2.1 ha45.2) m_X9_advance q8_12 xo_Tape rfl (by omega) (Nat.le_of_ble_eq_true rfl) dX9_readOne_45 rfl (fun r M45 hc45 => ?_)
      obtain ⟨rfl, hk45, hf45⟩ := hc45
      show XV κ (xP (wC t) M45) 48 _ []
      have hT45 := ty_fr hA.1 hf45
      refine x_iconst (pc := 48) (v := 1) C dX9_readOne_48 rfl ?_
      exact x_bret (pc := 49) C X (b := true) rfl dX9_readOne_49 (by have eR : pOne Y n g0 sub x = (true, tkE Y n x, [-1 - tkV Y n x], fun nm => nm (tkV Y n x).toNatClampNeg) := (by unfold pOne; rw [if_neg h5, if_pos h13]); rw [eR]; exact pm_tok hT hTk hS hzx hxn (by rw [h13]; decide) hk45 hf45 rfl rfl rfl)

