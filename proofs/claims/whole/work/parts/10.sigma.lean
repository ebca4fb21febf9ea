/-- a contract says less -/
theorem x_post {w : XW} {y : MethodName} {cc : ByteArray} {nL : Nat} {ret : Option FieldType} {d : Nat} {av : List Value} {M : MM} {φ φ' : XF} (h : XMet w y cc nL ret d av M φ) (hq : ∀ r M', φ r M' → φ' r M') : XMet w y cc nL ret d av M φ' := fun l =>
  Jvm.Free.MetFree.mono (h l) (fun _ _ h => h) (fun _ _ _ _ _ h => h) (fun _ _ _ _ _ hh => by
    obtain ⟨⟨r, M', e, h, hx⟩, h2⟩ := hh
    exact ⟨⟨r, M', e, hq _ _ h, hx⟩, h2⟩)
/-! THE STATE both sides keep, said without memory; the class's relation to it -/
abbrev SV : Type := WV × (Nat × (Nat → Nat → (Nat → Int32) → Int32)) × Option WV × (Nat × (Nat → Int32)) × (Nat → Int32 × Nat × (Nat → Int32))
abbrev sV (σ : SV) : WV := σ.1
abbrev sN (σ : SV) : Nat := σ.2.1.1
abbrev sT (σ : SV) : Nat → Nat → (Nat → Int32) → Int32 := σ.2.1.2
abbrev sK (σ : SV) : Option WV := σ.2.2.1
abbrev sB (σ : SV) : Nat := σ.2.2.2.1.1
abbrev sY (σ : SV) : Nat → Int32 := σ.2.2.2.1.2
abbrev sH (σ : SV) : Nat → Int32 × Nat × (Nat → Int32) := σ.2.2.2.2
def vOk (n : Nat) (v : WV) : Prop := vN v ≤ 6 ∧ vR v < n ∧ ∃ D : Nat, D ≤ 999 ∧ vD v = nI D
def kOk (n : Nat) (v : WV) (o : Option WV) : Prop := ∀ u, o = some u → vOk n u ∧ vN u ≤ vN v ∧ ∀ d, d < vN u → vK u d = vK v d
def hOk (h : Nat → Int32 × Nat × (Nat → Int32)) : Prop := ∀ s, s < 4 → (h s).2.1 ≤ 40 ∧ -1 ≤ (h s).1.toInt ∧ (h s).1.toInt ≤ 2
def sOk (σ : SV) : Prop := sN σ ≤ 6 ∧ sB σ ≤ 160 ∧ vOk (sN σ) (sV σ) ∧ kOk (sN σ) (sV σ) (sK σ) ∧ hOk (sH σ)
/-- the rule q of the class says what the text T says -/
def RulC (M : MM) (q : Nat) (T : Nat → (Nat → Int32) → Int32) : Prop := ∃ e : Nat → Nat, (∀ k, k < 3 → M (21 + 5 * q) k = nI (e k)) ∧ (∀ k, k < 3 → e k ≤ 160) ∧ ∀ p, p < 3 → ∀ nm s0, evJ (M (20 + 5 * q)) nm s0 (evF e p) (e p - evF e p) = T p nm
def ShC (M : MM) (s : Nat) (h : Int32 × Nat × (Nat → Int32)) : Prop := M (54 + 2 * s) 1 = h.1 ∧ (h.1 ≠ -1 → M (54 + 2 * s) 2 = nI h.2.1 ∧ ∀ k, k < h.2.1 → M (55 + 2 * s) k = h.2.2 k)
/-- what is told to be held is of eight files, also on disks that are not yet there -/
def HB (M : MM) : Prop := ∀ j, j < 12 → ∃ p, M (62 + 3 * j) 3 = mk p 8
def RC (σ : SV) (M : MM) : Prop := sOk σ ∧ VC 0 (sV σ) M ∧ M 0 8 = nI (sN σ) ∧ M 0 9 = b2i (sK σ).isSome ∧ (∀ u, sK σ = some u → VC 1 u M) ∧ (∀ q, q < sN σ → RulC M q (sT σ q)) ∧ (M 5 2 = nI (sB σ) ∧ ∀ k, k < sB σ → M 6 k = sY σ k) ∧ (∀ s, s < 4 → ShC M s (sH σ s)) ∧ HB M
/-- the cells that are read across calls -/
def rel (a b : Nat) : Prop := a = 0 ∨ a = 6 ∨ a = 7 ∨ a = 8 ∨ (a = 5 ∧ b = 2) ∨ (20 ≤ a ∧ a < 49 ∧ (a % 5 = 0 ∨ a % 5 = 1)) ∨ (54 ≤ a ∧ a < 98)
theorem rulC_congr {M M' : MM} {q : Nat} {T : Nat → (Nat → Int32) → Int32} (h : RulC M q T) (h1 : ∀ b, M' (20 + 5 * q) b = M (20 + 5 * q) b) (h2 : ∀ b, M' (21 + 5 * q) b = M (21 + 5 * q) b) : RulC M' q T := by
  obtain ⟨e, a, b, c⟩ := h
  refine ⟨e, fun k hk => (h2 k).trans (a k hk), b, fun p hp nm s0 => ?_⟩
  rw [show M' (20 + 5 * q) = M (20 + 5 * q) from funext h1]
  exact c p hp nm s0
theorem shC_congr {M M' : MM} {s : Nat} {h : Int32 × Nat × (Nat → Int32)} (hs : ShC M s h) (h1 : ∀ b, M' (54 + 2 * s) b = M (54 + 2 * s) b) (h2 : ∀ b, M' (55 + 2 * s) b = M (55 + 2 * s) b) : ShC M' s h :=
  ⟨(h1 1).trans hs.1, fun hn => ⟨(h1 2).trans (hs.2 hn).1, fun k hk => (h2 k).trans ((hs.2 hn).2 k hk)⟩⟩
/-- what is laid in the world now alone -/
theorem rc_world {σ : SV} {M M' : MM} {v' : WV} (h : RC σ M) (hv : VC 0 v' M') (hM : ∀ a b, rel a b → a ≠ 7 → ¬ (62 ≤ a ∧ a < 80) → M' a b = M a b) (hb : ∀ d, d < 6 → vN v' ≤ d → ∃ p, M' (62 + 3 * d) 3 = mk p 8) (ho : vOk (sN σ) v') (hk : kOk (sN σ) v' (sK σ)) : RC (v', σ.2) M' := by
  obtain ⟨⟨a1, a2, a3, a4, a5⟩, b, c, d, e, f, g, k, l⟩ := h
  refine ⟨⟨a1, a2, ho, hk, a5⟩, hv, (hM _ _ (by unfold rel; omega) (by omega) (by omega)).trans c, (hM _ _ (by unfold rel; omega) (by omega) (by omega)).trans d, fun u hu => vc_frame (e u hu) (fun a b hab => hM _ _ (by unfold rel; omega) (by omega) (by omega)), fun q hq => ?_, ⟨(hM _ _ (by unfold rel; omega) (by omega) (by omega)).trans g.1, fun k hk => (hM _ _ (by unfold rel; omega) (by omega) (by omega)).trans (g.2 k hk)⟩, fun s hs => ?_, fun j hj => ?_⟩
  · have hq6 : q < 6 := Nat.lt_of_lt_of_le hq a1
    exact rulC_congr (f q hq) (fun b => hM _ _ (by unfold rel; omega) (by omega) (by omega)) (fun b => hM _ _ (by unfold rel; omega) (by omega) (by omega))
  · exact shC_congr (k s hs) (fun b => hM _ _ (by unfold rel; omega) (by omega) (by omega)) (fun b => hM _ _ (by unfold rel; omega) (by omega) (by omega))
  · by_cases hj6 : j < 6
    · by_cases hn : j < vN v'
      · have := (hv.2.2.2.2 j hn).2.2.2.2.1
        rw [show 6 * 0 + j = j by omega] at this
        exact ⟨_, this⟩
      · exact hb j hj6 (by omega)
    · rw [hM _ _ (by unfold rel; omega) (by omega) (by omega)]
      exact l j hj
theorem rc_frame {σ : SV} {M M' : MM} (h : RC σ M) (hM : ∀ a b, rel a b → M' a b = M a b) : RC σ M' :=
  rc_world h (vc_frame h.2.1 (fun a b hab => hM a b (by unfold rel; omega))) (fun a b hab _ _ => hM a b hab) (fun d hd _ => by rw [hM _ _ (by unfold rel; omega)]; exact h.2.2.2.2.2.2.2.2 d (by omega)) h.1.2.2.1 h.1.2.2.2.1
theorem rc_J {σ : SV} {M M' : MM} {q : Nat} (h : RC σ M) (hq : q < 7) (hJ : Jk q M M') : RC σ M' :=
  rc_frame h fun a b hab => hJ a b (by unfold rel at hab; omega) (by unfold rel at hab; omega) (by unfold rel at hab; omega)
section RCL
variable {σ : SV} {M : MM}
theorem rc_n6 (h : RC σ M) : vN (sV σ) ≤ 6 := h.2.1.1
theorem rc_q (h : RC σ M) : vR (sV σ) < sN σ := h.1.2.2.1.2.1
theorem rc_q6 (h : RC σ M) : vR (sV σ) < 6 := Nat.lt_of_lt_of_le (rc_q h) h.1.1
theorem rc_day (h : RC σ M) : M (7 + 0) 0 = vD (sV σ) := h.2.1.2.1
theorem rc_rule (h : RC σ M) : M (7 + 0) 1 = nI (vR (sV σ)) := h.2.1.2.2.1
theorem rc_size (h : RC σ M) : M (7 + 0) 2 = nI (vN (sV σ)) := h.2.1.2.2.2.1
theorem rc_wi (h : RC σ M) : WI M 0 (vN (sV σ)) := vc_wi h.2.1
theorem rc_num (h : RC σ M) {d : Nat} (hd : d < vN (sV σ)) : M (62 + 3 * (6 * 0 + d)) 1 = vU (sV σ) d := (h.2.1.2.2.2.2 d hd).2.2.1
theorem rc_since (h : RC σ M) {d : Nat} (hd : d < vN (sV σ)) : M (62 + 3 * (6 * 0 + d)) 2 = vS (sV σ) d := (h.2.1.2.2.2.2 d hd).2.2.2.1
theorem rc_held (h : RC σ M) {d : Nat} (hd : d < vN (sV σ)) : M (62 + 3 * (6 * 0 + d)) 3 = mk (vHas (sV σ) d) 8 := (h.2.1.2.2.2.2 d hd).2.2.2.2.1
theorem rc_kd (h : RC σ M) {d : Nat} (hd : d < vN (sV σ)) : (M (62 + 3 * (6 * 0 + d)) 0).toNatClampNeg = vK (sV σ) d := vc_k h.2.1 hd
theorem rc_k6 (h : RC σ M) {d : Nat} (hd : d < vN (sV σ)) : (M (62 + 3 * (6 * 0 + d)) 0).toNatClampNeg < 6 := by rw [rc_kd h hd]; exact (h.2.1.2.2.2.2 d hd).2.1
theorem rc_ct (h : RC σ M) {d f : Nat} (hd : d < vN (sV σ)) (hf : f < 8) : M (63 + 3 * (6 * 0 + d)) f = vC (sV σ) d f := vc_ct h.2.1 hd hf
theorem rc_st (h : RC σ M) {d f : Nat} (hd : d < vN (sV σ)) (hf : f < 8) : M (64 + 3 * (6 * 0 + d)) f = vT (sV σ) d f := vc_st h.2.1 hd hf
theorem rc_tc (h : RC σ M) : M 0 8 = nI (sN σ) := h.2.2.1
theorem rc_ik (h : RC σ M) : M 0 9 = b2i (sK σ).isSome := h.2.2.2.1
theorem rc_tb (h : RC σ M) : M 5 2 = nI (sB σ) := h.2.2.2.2.2.2.1.1
theorem rc_sh (h : RC σ M) {s : Nat} (hs : s < 4) : ShC M s (sH σ s) := h.2.2.2.2.2.2.2.1 s hs
theorem rc_hb (h : RC σ M) {d : Nat} (hd : d < 6) : ∃ p, M (62 + 3 * d) 3 = mk p 8 := h.2.2.2.2.2.2.2.2 d (by omega)
theorem rc_ss (h : RC σ M) {s : Nat} (hs : s < 4) : M (54 + 2 * s) 1 = (sH σ s).1 := (rc_sh h hs).1
end RCL
/-- what the newest rule says of a file's worth, of a loss -/
def sWo (σ : SV) (q : Nat) (f : Nat) : Int32 := clampI 99 (sT σ q 2 (nm6 0 0 0 0 (nI f) (vD (sV σ))))
def sLi (σ : SV) (q : Nat) (x : Int32) : Int32 := clampI 100 (sT σ q 1 (nm6 0 0 0 x 0 (vD (sV σ))))
/-- cells that a copy onto b in world i leaves -/
def ou (i b a : Nat) : Prop := (a < 19 ∨ 54 ≤ a ∨ a % 5 = 0 ∨ a % 5 = 1) ∧ ¬ (62 + 3 * (6 * i + b) ≤ a ∧ a < 65 + 3 * (6 * i + b))
section CALLS
variable (t : CT) {σ : SV} {M : MM}
theorem c_worth (h : RC σ M) {q : Nat} (hq : q < sN σ) {f : Nat} (x : Int32) (hx : x = vD (sV σ)) : XMet (wC t) yX6_worth cX6_worth 3 (some .int) 4 [.ref (t.1 (19 + 5 * q)), .int (nI f), .int x] M (fun r M' => r = some (.int (sWo σ q f)) ∧ RC σ M') := by
  obtain ⟨e, a, b, c⟩ := h.2.2.2.2.2.1 q hq
  subst hx
  have hq6 : q < 6 := Nat.lt_of_lt_of_le hq h.1.1
  refine x_post (c_X6_worth t M (by omega) a b (fun nm s0 => c 2 (by decide) nm s0) _ _) ?_
  rintro r M' ⟨rfl, hJ⟩
  exact ⟨rfl, rc_J h (by omega) hJ⟩
theorem c_likely (h : RC σ M) {q : Nat} (hq : q < sN σ) (y x : Int32) (hx : x = vD (sV σ)) : XMet (wC t) yX6_likelihood cX6_likelihood 3 (some .int) 4 [.ref (t.1 (19 + 5 * q)), .int y, .int x] M (fun r M' => r = some (.int (sLi σ q y)) ∧ RC σ M') := by
  obtain ⟨e, a, b, c⟩ := h.2.2.2.2.2.1 q hq
  subst hx
  have hq6 : q < 6 := Nat.lt_of_lt_of_le hq h.1.1
  refine x_post (c_X6_likelihood t M (by omega) a b (fun nm s0 => c 1 (by decide) nm s0) _ _) ?_
  rintro r M' ⟨rfl, hJ⟩
  exact ⟨rfl, rc_J h (by omega) hJ⟩
theorem c_copy (h : RC σ M) {i : Nat} (hi : i < 3) {v : WV} (hv : VC i v M) {a b : Nat} (ha : a < vN v) (hb : b < vN v) {q : Nat} (hq : q < sN σ) : XMet (wC t) yX10_copyOnto cX10_copyOnto 9 (some .int) 6 [.ref (t.1 (7 + i)), .int (nI a), .int (nI b), .ref (t.1 (19 + 5 * q))] M (fun r M' => r = some (.int (nI (vCp v a b (sT σ q 0) 8).2)) ∧ VC i (vCp v a b (sT σ q 0) 8).1 M' ∧ ∀ x y, ou i b x → M' x y = M x y) := by
  obtain ⟨e, e1, e2, e3⟩ := h.2.2.2.2.2.1 q hq
  have hq6 : q < 6 := Nat.lt_of_lt_of_le hq h.1.1
  refine x_post (c_X10_copyOnto t M hi (vc_wi hv) ha hb (by omega : q < 7) e1 e2 (fun nm s0 => e3 0 (by decide) nm s0)) ?_
  rintro r M' ⟨rfl, hJ⟩
  obtain ⟨g1, g2⟩ := vc_cp (Ev := sT σ q 0) hv ha hb 8 (Nat.le_refl _)
  have h6 := hv.1
  refine ⟨by rw [g2], vc_J g1 hi (by omega) hJ, fun x y hxy => ?_⟩
  unfold ou at hxy
  rw [hJ x y (by omega) (by omega) (by omega)]
  exact cpN_o ⟨by omega, by omega, by omega⟩ 8
theorem c_copyT (h : RC σ M) {v : WV} (hv : VC 2 v M) {a b : Nat} (ha : a < vN v) (hb : b < vN v) {q : Nat} (hq : q < sN σ) : XMet (wC t) yX10_copyOnto cX10_copyOnto 9 (some .int) 6 [.ref (t.1 (7 + 2)), .int (nI a), .int (nI b), .ref (t.1 (19 + 5 * q))] M (fun r M' => r = some (.int (nI (vCp v a b (sT σ q 0) 8).2)) ∧ RC σ M' ∧ VC 2 (vCp v a b (sT σ q 0) 8).1 M' ∧ ∀ x y, 116 ≤ x → M' x y = M x y) := by
  refine x_post (c_copy t h (by decide : 2 < 3) hv ha hb hq) ?_
  rintro r M' ⟨rfl, h1, h2⟩
  exact ⟨rfl, rc_frame h (fun x y hxy => h2 x y (by have := hv.1; unfold rel at hxy; unfold ou; omega)), h1, fun x y hx => h2 x y (by have := hv.1; unfold ou; omega)⟩
theorem c_think (h : RC σ M) : XMet (wC t) yX10_become cX10_become 3 none 3 [.ref (t.1 (7 + 2)), .ref (t.1 (7 + 0))] M (fun r M' => r = none ∧ RC σ M' ∧ VC 2 (sV σ) M' ∧ ∀ x y, 116 ≤ x → M' x y = M x y) := by
  refine x_post (c_X10_become t M (by decide : 2 < 3) (by decide : 0 < 3) (by decide)) ?_
  rintro r M' ⟨rfl, rfl⟩
  exact ⟨rfl, rc_frame h (fun a b hab => wBec_o (by unfold rel at hab; omega)), vc_bec h.2.1 (by decide) (by decide), fun x y hx => wBec_o (by omega)⟩
end CALLS
