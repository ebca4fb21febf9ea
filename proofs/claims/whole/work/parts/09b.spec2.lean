/-! how the worlds' memory follows the values -/
theorem keeps_nn {k : Nat} {c : Int32} (h : 0 ≤ c.toInt) : 0 ≤ (kKeeps k c).toInt := by
  have hc : ¬ c < 0 := by rw [i_lt]; simpa using h
  obtain ⟨n, hn, rfl⟩ := nI_of hc
  unfold kKeeps
  split
  · split
    · decide
    · exact h
  · have e : nI n - nI n / 10 * 10 = nI (n % 10) := pk_rem (d := 10) hn (by decide) (by decide)
    rw [e, pk_sub (Nat.mod_le _ _), nI_toInt (by omega)]
    omega
  · exact h
theorem vC_set (v : WV) (d f : Nat) (c s : Int32) (x y : Nat) : vC (vSet v d f c s) x y = if x = d ∧ y = f then c else vC v x y := rfl
theorem vT_set (v : WV) (d f : Nat) (c s : Int32) (x y : Nat) : vT (vSet v d f c s) x y = if x = d ∧ y = f then s else vT v x y := rfl
theorem vHas_set (v : WV) (d f : Nat) (c s : Int32) (x y : Nat) : vHas (vSet v d f c s) x y = if x = d ∧ y = f then !decide (c = -1) else vHas v x y := by
  unfold vHas
  rw [vC_set]
  split
  · rfl
  · rfl
theorem vc_frame {i : Nat} {v : WV} {X Y : MM} (h : VC i v X) (hY : ∀ a b, (a = 7 + i ∨ (62 + 18 * i ≤ a ∧ a < 80 + 18 * i)) → Y a b = X a b) : VC i v Y := by
  obtain ⟨h6, h0, h1, h2, hd5⟩ := h
  refine ⟨h6, (hY _ _ (Or.inl rfl)).trans h0, (hY _ _ (Or.inl rfl)).trans h1, (hY _ _ (Or.inl rfl)).trans h2, fun d hd => ?_⟩
  obtain ⟨a1, a2, a3, a4, a5, a6⟩ := hd5 d hd
  refine ⟨(hY _ _ (Or.inr (by omega))).trans a1, a2, (hY _ _ (Or.inr (by omega))).trans a3, (hY _ _ (Or.inr (by omega))).trans a4, (hY _ _ (Or.inr (by omega))).trans a5, fun f hf => ?_⟩
  obtain ⟨b1, b2, b3⟩ := a6 f hf
  exact ⟨(hY _ _ (Or.inr (by omega))).trans b1, (hY _ _ (Or.inr (by omega))).trans b2, b3⟩
theorem vc_J {i : Nat} {v : WV} {X Y : MM} {q : Nat} (h : VC i v X) (hi : i < 3) (hq : q < 7) (hJ : Jk q X Y) : VC i v Y :=
  vc_frame h fun a b hab => hJ a b (by omega) (by omega) (by omega)
theorem vc_bec {i i2 : Nat} {v : WV} {X : MM} (h : VC i2 v X) (hi : i < 3) (hi2 : i2 < 3) : VC i v (wBecN X i i2 6) := by
  obtain ⟨h6, h0, h1, h2, hd5⟩ := h
  have e7 : ∀ b, b < 3 → wBecN X i i2 6 (7 + i) b = X (7 + i2) b := fun b hb => by unfold wBecN; rw [if_pos ⟨rfl, hb⟩]
  have eD : ∀ d z b, d < 6 → z < 3 → b < (if z = 0 then 4 else 8) → wBecN X i i2 6 (62 + 3 * (6 * i + d) + z) b = X (62 + 3 * (6 * i2 + d) + z) b := fun d z b hd hz hb => by
    unfold wBecN
    rw [if_neg (by omega), if_pos ⟨by omega, by omega, by
      rw [show (62 + 3 * (6 * i + d) + z - 62) % 3 = z by omega]; exact hb⟩, show 62 + 3 * (6 * i + d) + z - 18 * i + 18 * i2 = 62 + 3 * (6 * i2 + d) + z by omega]
  refine ⟨h6, (e7 0 (by decide)).trans h0, (e7 1 (by decide)).trans h1, (e7 2 (by decide)).trans h2, fun d hd => ?_⟩
  obtain ⟨a1, a2, a3, a4, a5, a6⟩ := hd5 d hd
  have g0 := fun b hb => eD d 0 b (by omega) (by decide) hb
  have g1 := fun b hb => eD d 1 b (by omega) (by decide) hb
  have g2 := fun b hb => eD d 2 b (by omega) (by decide) hb
  refine ⟨(g0 0 (by decide)).trans a1, a2, (g0 1 (by decide)).trans a3, (g0 2 (by decide)).trans a4, (g0 3 (by decide)).trans a5, fun f hf => ?_⟩
  obtain ⟨b1, b2, b3⟩ := a6 f hf
  refine ⟨?_, ?_, b3⟩
  · have := g1 f (by simpa using hf)
    rw [show 62 + 3 * (6 * i + d) + 1 = 63 + 3 * (6 * i + d) by omega, show 62 + 3 * (6 * i2 + d) + 1 = 63 + 3 * (6 * i2 + d) by omega] at this
    exact this.trans b1
  · have := g2 f (by simpa using hf)
    rw [show 62 + 3 * (6 * i + d) + 2 = 64 + 3 * (6 * i + d) by omega, show 62 + 3 * (6 * i2 + d) + 2 = 64 + 3 * (6 * i2 + d) by omega] at this
    exact this.trans b2
theorem wBec_o {X : MM} {i i2 : Nat} {a b : Nat} (h : a ≠ 7 + i ∧ ¬ (62 + 18 * i ≤ a ∧ a < 80 + 18 * i)) : wBecN X i i2 6 a b = X a b := by
  unfold wBecN
  rw [if_neg (by omega), if_neg (by omega)]
theorem vc_set {i : Nat} {v : WV} {X Y : MM} {d f : Nat} {c s : Int32} (h : VC i v X) (hd : d < vN v) (hf : f < 8) (hc : -1 ≤ c.toInt)
    (e1 : Y (63 + 3 * (6 * i + d)) f = c) (e2 : Y (64 + 3 * (6 * i + d)) f = s) (e3 : Y (62 + 3 * (6 * i + d)) 3 = mk (fun k => if k = f then !decide (c = -1) else vHas v d k) 8)
    (eo : ∀ a b, ¬ (a = 63 + 3 * (6 * i + d) ∧ b = f) → ¬ (a = 64 + 3 * (6 * i + d) ∧ b = f) → ¬ (a = 62 + 3 * (6 * i + d) ∧ b = 3) → (a = 7 + i ∨ (62 + 18 * i ≤ a ∧ a < 80 + 18 * i)) → Y a b = X a b) : VC i (vSet v d f c s) Y := by
  obtain ⟨h6, h0, h1, h2, hd5⟩ := h
  refine ⟨h6, (eo _ _ (by omega) (by omega) (by omega) (Or.inl rfl)).trans h0, (eo _ _ (by omega) (by omega) (by omega) (Or.inl rfl)).trans h1, (eo _ _ (by omega) (by omega) (by omega) (Or.inl rfl)).trans h2, fun x hx => ?_⟩
  have hx' : x < vN v := hx
  obtain ⟨a1, a2, a3, a4, a5, a6⟩ := hd5 x hx'
  refine ⟨(eo _ _ (by omega) (by omega) (by omega) (Or.inr (by omega))).trans a1, a2, (eo _ _ (by omega) (by omega) (by omega) (Or.inr (by omega))).trans a3, (eo _ _ (by omega) (by omega) (by omega) (Or.inr (by omega))).trans a4, ?_, fun g hg => ?_⟩
  · by_cases hxd : x = d
    · subst hxd
      rw [e3]
      refine mk_congr fun k hk => ?_
      rw [vHas_set]
      by_cases hkf : k = f
      · rw [if_pos hkf, if_pos ⟨rfl, hkf⟩]
      · rw [if_neg hkf, if_neg (fun e => hkf e.2)]
    · rw [eo _ _ (by omega) (by omega) (by omega) (Or.inr (by omega)), a5]
      refine mk_congr fun k hk => ?_
      rw [vHas_set, if_neg (fun e => hxd e.1)]
  · obtain ⟨b1, b2, b3⟩ := a6 g hg
    by_cases hxd : x = d ∧ g = f
    · obtain ⟨rfl, rfl⟩ := hxd
      refine ⟨?_, ?_, ?_⟩
      · rw [e1, vC_set, if_pos ⟨rfl, rfl⟩]
      · rw [e2, vT_set, if_pos ⟨rfl, rfl⟩]
      · rw [vC_set, if_pos ⟨rfl, rfl⟩]; exact hc
    · refine ⟨?_, ?_, ?_⟩
      · rw [eo _ _ (by omega) (by omega) (by omega) (Or.inr (by omega)), b1, vC_set, if_neg hxd]
      · rw [eo _ _ (by omega) (by omega) (by omega) (Or.inr (by omega)), b2, vT_set, if_neg hxd]
      · rw [vC_set, if_neg hxd]; exact b3
theorem vc_put {i : Nat} {v : WV} {X : MM} {d f : Nat} {c s : Int32} (h : VC i v X) (hd : d < vN v) (hf : f < 8) (hc : 0 ≤ c.toInt) : VC i (vSet v d f (kKeeps (vK v d) c) s) (dPut X (6 * i + d) f c s) := by
  have hk := keeps_nn (k := vK v d) hc
  refine vc_set h hd hf (by omega) ?_ ?_ ?_ ?_
  · unfold dPut
    rw [mu_n _ _ _ _ (by omega), mu_n _ _ _ _ (by omega), mu_s, vc_k h hd]
  · unfold dPut
    rw [mu_n _ _ _ _ (by omega), mu_s]
  · unfold dPut
    rw [mu_s, (h.2.2.2.2 d hd).2.2.2.2.1]
    apply b_ext
    intro j hj
    rw [b_or, bt_mk _ 8 (by decide) j hj, bt_mk _ 8 (by decide) j hj, bt_one (by omega) hj]
    have hne : kKeeps (vK v d) c ≠ -1 := fun e => by rw [e] at hk; exact absurd hk (by decide)
    by_cases g : j = f
    · subst g; simp [hf, hne]
    · simp [g]
  · intro a b x1 x2 x3 _
    unfold dPut
    rw [mu_at, if_neg x3, mu_at, if_neg x2, mu_at, if_neg x1]
theorem vc_drop {i : Nat} {v : WV} {X : MM} {d f : Nat} (h : VC i v X) (hd : d < vN v) (hf : f < 8) : VC i (vSet v d f (-1) (-100)) (dDrop X (6 * i + d) f) := by
  refine vc_set h hd hf (by decide) ?_ ?_ ?_ ?_
  · unfold dDrop
    rw [mu_n _ _ _ _ (by omega), mu_n _ _ _ _ (by omega), mu_s]
  · unfold dDrop
    rw [mu_n _ _ _ _ (by omega), mu_s]
  · unfold dDrop
    rw [mu_s, (h.2.2.2.2 d hd).2.2.2.2.1]
    apply b_ext
    intro j hj
    rw [bt_without (by omega) hj, bt_mk _ 8 (by decide) j hj, bt_mk _ 8 (by decide) j hj]
    by_cases g : j = f
    · subst g; simp
    · simp [g]
  · intro a b x1 x2 x3 _
    unfold dDrop
    rw [mu_at, if_neg x3, mu_at, if_neg x2, mu_at, if_neg x1]
theorem vCp_n {v : WV} {a b : Nat} {Ev : (Nat → Int32) → Int32} : ∀ f, vN (vCp v a b Ev f).1 = vN v ∧ vD (vCp v a b Ev f).1 = vD v ∧ vR (vCp v a b Ev f).1 = vR v ∧ vK (vCp v a b Ev f).1 = vK v ∧ vU (vCp v a b Ev f).1 = vU v ∧ vS (vCp v a b Ev f).1 = vS v := by
  intro f
  induction f with
  | zero => exact ⟨rfl, rfl, rfl, rfl, rfl, rfl⟩
  | succ f ih =>
    rw [vCp]
    split
    · exact ih
    · exact ih
theorem vc_cpC {i : Nat} {v : WV} {X : MM} {a b f : Nat} {Ev : (Nat → Int32) → Int32} (h : VC i v X) (ha : a < vN v) (hb : b < vN v) (hf : f < 8) : cpC X i a b f Ev = vCpC v a b f Ev := by
  unfold cpC vCpC
  rw [vc_held h ha hf, vc_ti h hb hf, vc_st h hb hf, vc_st h ha hf, vc_ct h ha hf, vc_ct h hb hf, (h.2.2.2.2 b hb).2.2.1, h.2.1]
theorem vc_cp {i : Nat} {v : WV} {X : MM} {a b : Nat} {Ev : (Nat → Int32) → Int32} (h : VC i v X) (ha : a < vN v) (hb : b < vN v) : ∀ f, f ≤ 8 → VC i (vCp v a b Ev f).1 (cpN X i a b Ev f).1 ∧ (cpN X i a b Ev f).2 = (vCp v a b Ev f).2 := by
  intro f
  induction f with
  | zero => intro _; exact ⟨h, rfl⟩
  | succ f ih =>
    intro hf
    obtain ⟨i1, i2⟩ := ih (by omega)
    have hn := (vCp_n (v := v) (a := a) (b := b) (Ev := Ev) f).1
    have ha' : a < vN (vCp v a b Ev f).1 := by rw [hn]; exact ha
    have hb' : b < vN (vCp v a b Ev f).1 := by rw [hn]; exact hb
    have hc := vc_cpC (f := f) (Ev := Ev) i1 ha' hb' (by omega)
    cases hv : vCpC (vCp v a b Ev f).1 a b f Ev with
    | false =>
      rw [hv] at hc
      rw [cpN_f hc, vCp, hv]
      exact ⟨i1, i2⟩
    | true =>
      rw [hv] at hc
      rw [cpN_t hc, vCp, hv]
      refine ⟨?_, by rw [i2]; rfl⟩
      have hhas : vHas (vCp v a b Ev f).1 a f = true := by
        unfold vCpC at hv
        rw [Bool.and_eq_true] at hv
        exact hv.1
      have hcont := (i1.2.2.2.2 a ha').2.2.2.2.2 f (by omega)
      have hnn : 0 ≤ (vC (vCp v a b Ev f).1 a f).toInt := by
        have h1 := hcont.2.2
        have h2 : vC (vCp v a b Ev f).1 a f ≠ -1 := by unfold vHas at hhas; simpa using hhas
        have h3 : (vC (vCp v a b Ev f).1 a f).toInt ≠ -1 := fun e => h2 (Int32.toInt_inj.mp (e.trans rfl))
        omega
      show VC i (vCpD _ a b f) (dPut _ (6 * i + b) f _ _)
      rw [hcont.1, hcont.2.1]
      exact vc_put i1 hb' (by omega) hnn
theorem cpN_o2 {M : MM} {i a b : Nat} {Ev : (Nat → Int32) → Int32} {x y : Nat} (hi : i < 3) (hb : b < 6) (h : ¬ (62 + 18 * i ≤ x ∧ x < 80 + 18 * i)) (f : Nat) : (cpN M i a b Ev f).1 x y = M x y := cpN_o ⟨by omega, by omega, by omega⟩ f
