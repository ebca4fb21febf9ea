/-! the state's relation after what a call lays -/
section VCM
variable {i : Nat} {v : WV} {X : MM}
theorem vc_day (h : VC i v X) (x : Int32) : VC i (vDay v x) (mu X (7 + i) 0 x) := by
  obtain ⟨h6, h0, h1, h2, hd5⟩ := h
  refine ⟨h6, mu_s _ _ _ _, (mu_k _ _ _ _ (by decide)).trans h1, (mu_k _ _ _ _ (by decide)).trans h2, fun d hd => ?_⟩
  rw [mu_n _ _ _ _ (by omega), mu_n _ _ _ _ (by omega), mu_n _ _ _ _ (by omega)]
  exact hd5 d hd
theorem vc_rul (h : VC i v X) (q : Nat) : VC i (vRul v q) (mu X (7 + i) 1 (nI q)) := by
  obtain ⟨h6, h0, h1, h2, hd5⟩ := h
  refine ⟨h6, (mu_k _ _ _ _ (by decide)).trans h0, mu_s _ _ _ _, (mu_k _ _ _ _ (by decide)).trans h2, fun d hd => ?_⟩
  rw [mu_n _ _ _ _ (by omega), mu_n _ _ _ _ (by omega), mu_n _ _ _ _ (by omega)]
  exact hd5 d hd
theorem vc_num (h : VC i v X) (hi : i < 3) {d : Nat} (hd : d < vN v) (x : Int32) : VC i (vNum v d x) (mu X (62 + 3 * (6 * i + d)) 1 x) := by
  obtain ⟨h6, h0, h1, h2, hd5⟩ := h
  refine ⟨h6, (congrFun (mu_n _ _ _ _ (by omega)) _).trans h0, (congrFun (mu_n _ _ _ _ (by omega)) _).trans h1, (congrFun (mu_n _ _ _ _ (by omega)) _).trans h2, fun e he => ?_⟩
  have he' : e < vN v := he
  obtain ⟨a1, a2, a3, a4, a5, a6⟩ := hd5 e he'
  rw [mu_n (a := 63 + 3 * (6 * i + e)) _ _ _ _ (by omega), mu_n (a := 64 + 3 * (6 * i + e)) _ _ _ _ (by omega)]
  by_cases g : e = d
  · subst g
    exact ⟨(mu_k _ _ _ _ (by decide)).trans a1, a2, (mu_s _ _ _ _).trans (if_pos rfl).symm, (mu_k _ _ _ _ (by decide)).trans a4, (mu_k _ _ _ _ (by decide)).trans a5, a6⟩
  · rw [mu_n _ _ _ _ (by omega)]
    exact ⟨a1, a2, a3.trans (if_neg g).symm, a4, a5, a6⟩
theorem vc_sin (h : VC i v X) (hi : i < 3) {d : Nat} (hd : d < vN v) (x : Int32) : VC i (vSin v d x) (mu X (62 + 3 * (6 * i + d)) 2 x) := by
  obtain ⟨h6, h0, h1, h2, hd5⟩ := h
  refine ⟨h6, (congrFun (mu_n _ _ _ _ (by omega)) _).trans h0, (congrFun (mu_n _ _ _ _ (by omega)) _).trans h1, (congrFun (mu_n _ _ _ _ (by omega)) _).trans h2, fun e he => ?_⟩
  have he' : e < vN v := he
  obtain ⟨a1, a2, a3, a4, a5, a6⟩ := hd5 e he'
  rw [mu_n (a := 63 + 3 * (6 * i + e)) _ _ _ _ (by omega), mu_n (a := 64 + 3 * (6 * i + e)) _ _ _ _ (by omega)]
  by_cases g : e = d
  · subst g
    exact ⟨(mu_k _ _ _ _ (by decide)).trans a1, a2, (mu_k _ _ _ _ (by decide)).trans a3, (mu_s _ _ _ _).trans (if_pos rfl).symm, (mu_k _ _ _ _ (by decide)).trans a5, a6⟩
  · rw [mu_n _ _ _ _ (by omega)]
    exact ⟨a1, a2, a3, a4.trans (if_neg g).symm, a5, a6⟩
theorem vc_kin (h : VC i v X) (hi : i < 3) {d : Nat} (hd : d < vN v) {k : Nat} (hk : k < 6) : VC i (vKin v d k) (mu X (62 + 3 * (6 * i + d)) 0 (nI k)) := by
  obtain ⟨h6, h0, h1, h2, hd5⟩ := h
  refine ⟨h6, (congrFun (mu_n _ _ _ _ (by omega)) _).trans h0, (congrFun (mu_n _ _ _ _ (by omega)) _).trans h1, (congrFun (mu_n _ _ _ _ (by omega)) _).trans h2, fun e he => ?_⟩
  have he' : e < vN v := he
  obtain ⟨a1, a2, a3, a4, a5, a6⟩ := hd5 e he'
  rw [mu_n (a := 63 + 3 * (6 * i + e)) _ _ _ _ (by omega), mu_n (a := 64 + 3 * (6 * i + e)) _ _ _ _ (by omega)]
  by_cases g : e = d
  · subst g
    have e1 : vK (vKin v e k) e = k := if_pos rfl
    exact ⟨by rw [e1]; exact mu_s _ _ _ _, by rw [e1]; exact hk, (mu_k _ _ _ _ (by decide)).trans a3, (mu_k _ _ _ _ (by decide)).trans a4, (mu_k _ _ _ _ (by decide)).trans a5, a6⟩
  · rw [mu_n _ _ _ _ (by omega)]
    have e1 : vK (vKin v d k) e = vK v e := if_neg g
    exact ⟨by rw [e1]; exact a1, by rw [e1]; exact a2, a3, a4, a5, a6⟩
theorem dDropN_at (M : MM) (j f a b : Nat) : dDropN M j f a b = if a = 63 + 3 * j ∧ b < f then -1 else if a = 64 + 3 * j ∧ b < f then -100 else if a = 62 + 3 * j ∧ b = 3 then dDropN M j f (62 + 3 * j) 3 else M a b := by
  induction f with
  | zero =>
    show M a b = _
    rw [if_neg (by omega), if_neg (by omega)]
    split
    · rename_i h; rw [h.1, h.2]; rfl
    · rfl
  | succ f ih =>
    rw [dDropN]
    unfold dDrop
    rw [mu_at, mu_at, mu_at, ih]
    by_cases h1 : a = 63 + 3 * j
    · subst h1
      rw [if_neg (by omega), if_neg (by omega)]
      by_cases h2 : b = f
      · rw [if_pos ⟨rfl, h2⟩, if_pos ⟨rfl, by omega⟩]
      · rw [if_neg (by omega)]
        by_cases h3 : b < f
        · rw [if_pos ⟨rfl, h3⟩, if_pos ⟨rfl, by omega⟩]
        · rw [if_neg (by omega), if_neg (by omega), if_neg (by omega), if_neg (by omega), if_neg (by omega), if_neg (by omega)]
    · by_cases h4 : a = 64 + 3 * j
      · subst h4
        rw [if_neg (by omega)]
        by_cases h2 : b = f
        · rw [if_pos ⟨rfl, h2⟩, if_neg (by omega), if_pos ⟨rfl, by omega⟩]
        · rw [if_neg (by omega), if_neg (by omega), if_neg (by omega)]
          by_cases h3 : b < f
          · rw [if_pos ⟨rfl, h3⟩, if_neg (by omega), if_pos ⟨rfl, by omega⟩]
          · rw [if_neg (by omega), if_neg (by omega), if_neg (by omega), if_neg (by omega), if_neg (by omega)]
      · by_cases h5 : a = 62 + 3 * j ∧ b = 3
        · rw [if_pos h5, if_neg (by omega), if_neg (by omega), if_pos h5, mu_s]
        · rw [if_neg h5, if_neg (by omega), if_neg (by omega), if_neg (by omega), if_neg (by omega), if_neg h5, if_neg (by omega), if_neg (by omega), if_neg h5]
theorem dDropN_held (M : MM) (j : Nat) : ∀ f, f ≤ 8 → ∀ k, k < 32 → bt (dDropN M j f (62 + 3 * j) 3) k = (bt (M (62 + 3 * j) 3) k && !decide (k < f)) := by
  intro f
  induction f with
  | zero => intro _ k _; show bt (M _ 3) k = _; simp
  | succ f ih =>
    intro hf k hk
    rw [dDropN]
    unfold dDrop
    rw [mu_s, bt_without (by omega) hk, ih (by omega) k hk]
    by_cases g : k = f
    · subst g; simp
    · by_cases g2 : k < f
      · simp [g2, show k < f + 1 by omega]
      · simp [g2, g, show ¬ k < f + 1 by omega]
end VCM
theorem kOk_same {n : Nat} {v v' : WV} {o : Option WV} (h : kOk n v o) (hn : vN v' = vN v) (hk : vK v' = vK v) : kOk n v' o := fun u hu => by
  obtain ⟨a, b, c⟩ := h u hu
  exact ⟨a, by rw [hn]; exact b, by rw [hk]; exact c⟩
theorem sCp_rest (σ : SV) (v : WV) (a b : Nat) : vN (sCp σ v a b).1 = vN v ∧ vD (sCp σ v a b).1 = vD v ∧ vR (sCp σ v a b).1 = vR v ∧ vK (sCp σ v a b).1 = vK v := by
  rw [← sCp_eq]
  exact ⟨(vCp_n 8).1, (vCp_n 8).2.1, (vCp_n 8).2.2.1, (vCp_n 8).2.2.2.1⟩
section RCM
variable {σ : SV} {M : MM}
theorem rc_day_ (h : RC σ M) {x : Int32} (hx : inB x 1000 = true) : RC (setV σ (vDay (sV σ) x)) (mu M (7 + 0) 0 x) := by
  obtain ⟨D, hD, rfl⟩ := inB_of hx (by decide)
  exact rc_world h (vc_day h.2.1 _) (fun a b _ h7 _ => by rw [mu_n _ _ _ _ (by omega)]) (fun d hd _ => by rw [mu_n _ _ _ _ (by omega)]; exact rc_hb h hd) ⟨h.1.2.2.1.1, h.1.2.2.1.2.1, D, by omega, rfl⟩ (kOk_same h.1.2.2.2.1 rfl rfl)
theorem rc_rul_ (h : RC σ M) {q : Nat} (hq : q < sN σ) : RC (setV σ (vRul (sV σ) q)) (mu M (7 + 0) 1 (nI q)) :=
  rc_world h (vc_rul h.2.1 _) (fun a b _ h7 _ => by rw [mu_n _ _ _ _ (by omega)]) (fun d hd _ => by rw [mu_n _ _ _ _ (by omega)]; exact rc_hb h hd) ⟨h.1.2.2.1.1, hq, h.1.2.2.1.2.2⟩ (kOk_same h.1.2.2.2.1 rfl rfl)
theorem rc_num_ (h : RC σ M) {d : Nat} (hd : d < vN (sV σ)) (x : Int32) : RC (setV σ (vNum (sV σ) d x)) (mu M (62 + 3 * (6 * 0 + d)) 1 x) :=
  rc_world h (vc_num h.2.1 (by decide) hd x) (fun a b _ h7 h8 => by have := rc_n6 h; rw [mu_n _ _ _ _ (by omega)]) (fun e he hn => by have hn' : vN (sV σ) ≤ e := hn; rw [mu_n _ _ _ _ (by omega)]; exact rc_hb h he) h.1.2.2.1 (kOk_same h.1.2.2.2.1 rfl rfl)
theorem rc_sin_ (h : RC σ M) {d : Nat} (hd : d < vN (sV σ)) (x : Int32) : RC (setV σ (vSin (sV σ) d x)) (mu M (62 + 3 * (6 * 0 + d)) 2 x) :=
  rc_world h (vc_sin h.2.1 (by decide) hd x) (fun a b _ h7 h8 => by have := rc_n6 h; rw [mu_n _ _ _ _ (by omega)]) (fun e he hn => by have hn' : vN (sV σ) ≤ e := hn; rw [mu_n _ _ _ _ (by omega)]; exact rc_hb h he) h.1.2.2.1 (kOk_same h.1.2.2.2.1 rfl rfl)
theorem rc_put_ (h : RC σ M) {d f : Nat} (hd : d < vN (sV σ)) (hf : f < 8) {c s : Int32} (hc : 0 ≤ c.toInt) : RC (setV σ (vSet (sV σ) d f (kKeeps (vK (sV σ) d) c) s)) (dPut M (6 * 0 + d) f c s) :=
  rc_world h (vc_put h.2.1 hd hf hc) (fun a b _ h7 h8 => by have := rc_n6 h; unfold dPut; rw [mu_n _ _ _ _ (by omega), mu_n _ _ _ _ (by omega), mu_n _ _ _ _ (by omega)]) (fun e he hn => by have hn' : vN (sV σ) ≤ e := hn; unfold dPut; rw [mu_n _ _ _ _ (by omega), mu_n _ _ _ _ (by omega), mu_n _ _ _ _ (by omega)]; exact rc_hb h he) h.1.2.2.1 (kOk_same h.1.2.2.2.1 rfl rfl)
theorem rc_drop_ (h : RC σ M) {d f : Nat} (hd : d < vN (sV σ)) (hf : f < 8) : RC (setV σ (vSet (sV σ) d f (-1) (-100))) (dDrop M (6 * 0 + d) f) :=
  rc_world h (vc_drop h.2.1 hd hf) (fun a b _ h7 h8 => by have := rc_n6 h; unfold dDrop; rw [mu_n _ _ _ _ (by omega), mu_n _ _ _ _ (by omega), mu_n _ _ _ _ (by omega)]) (fun e he hn => by have hn' : vN (sV σ) ≤ e := hn; unfold dDrop; rw [mu_n _ _ _ _ (by omega), mu_n _ _ _ _ (by omega), mu_n _ _ _ _ (by omega)]; exact rc_hb h he) h.1.2.2.1 (kOk_same h.1.2.2.2.1 rfl rfl)
theorem rc_cp_ (h : RC σ M) {w : WV} {M' : MM} {b : Nat} (hb : b < vN (sV σ)) (e : vN w = vN (sV σ) ∧ vD w = vD (sV σ) ∧ vR w = vR (sV σ) ∧ vK w = vK (sV σ)) (hv : VC 0 w M') (hM : ∀ x y, ou 0 b x → M' x y = M x y) : RC (setV σ w) M' := by
  obtain ⟨e1, e2, e3, e4⟩ := e
  have h6 := rc_n6 h
  refine rc_world h hv (fun x y hr h7 h8 => hM x y (by unfold rel at hr; unfold ou; omega)) (fun d hd hn => by rw [hM _ _ (by unfold ou; omega)]; exact rc_hb h hd) ⟨?_, ?_, ?_⟩ (kOk_same h.1.2.2.2.1 e1 e4)
  · rw [e1]; exact h6
  · rw [e3]; exact rc_q h
  · rw [e2]; exact h.1.2.2.1.2.2
theorem vc_begin {v : WV} {X : MM} (h : VC 0 v X) (hn : vN v < 6) (hb : ∃ p, X (62 + 3 * (6 * 0 + vN v)) 3 = mk p 8) {k : Nat} (hk : k < 6) (x : Int32) : VC 0 (vNew v k x) (mu (dBegin X (6 * 0 + vN v) (nI k) x (vD v)) (7 + 0) 2 (nI (vN v + 1))) := by
  obtain ⟨h6, h0, h1, h2, hd5⟩ := h
  have key : ∀ a b, a ≠ 62 + 3 * (6 * 0 + vN v) → a ≠ 63 + 3 * (6 * 0 + vN v) → a ≠ 64 + 3 * (6 * 0 + vN v) → dBegin X (6 * 0 + vN v) (nI k) x (vD v) a b = X a b := fun a b g1 g2 g3 => by
    unfold dBegin
    rw [dDropN_at, if_neg (by omega), if_neg (by omega), if_neg (by omega), mu_n _ _ _ _ g1, mu_n _ _ _ _ g1, mu_n _ _ _ _ g1]
  refine ⟨by show vN v + 1 ≤ 6; omega, ?_, ?_, mu_s _ _ _ _, fun d hd => ?_⟩
  · rw [mu_k _ _ _ _ (by decide), key _ _ (by omega) (by omega) (by omega)]; exact h0
  · rw [mu_k _ _ _ _ (by decide), key _ _ (by omega) (by omega) (by omega)]; exact h1
  · have hd' : d < vN v + 1 := hd
    rw [mu_n _ _ _ _ (by omega), mu_n _ _ _ _ (by omega), mu_n _ _ _ _ (by omega)]
    by_cases g : d = vN v
    · subst g
      have f0 : vK (vNew v k x) (vN v) = k := if_pos rfl
      have f1 : vU (vNew v k x) (vN v) = x := if_pos rfl
      have f2 : vS (vNew v k x) (vN v) = vD v := if_pos rfl
      have f3 : ∀ f, vC (vNew v k x) (vN v) f = -1 := fun f => if_pos rfl
      have f4 : ∀ f, vT (vNew v k x) (vN v) f = -100 := fun f => if_pos rfl
      have f5 : ∀ f, vHas (vNew v k x) (vN v) f = false := fun f => by unfold vHas; rw [f3]; rfl
      rw [f0, f1, f2]
      have hlow : ∀ b, b ≠ 3 → dBegin X (6 * 0 + vN v) (nI k) x (vD v) (62 + 3 * (6 * 0 + vN v)) b = if b = 2 then vD v else if b = 1 then x else if b = 0 then nI k else X (62 + 3 * (6 * 0 + vN v)) b := fun b hb => by
        unfold dBegin
        rw [dDropN_at, if_neg (by omega), if_neg (by omega), if_neg (by omega), mu_at, mu_at, mu_at]
        simp only [true_and]
      refine ⟨(hlow 0 (by decide)).trans rfl, hk, (hlow 1 (by decide)).trans rfl, (hlow 2 (by decide)).trans rfl, ?_, fun f hf => ⟨?_, ?_, ?_⟩⟩
      · apply b_ext
        intro j hj
        rw [bt_mk _ 8 (by decide) j hj, f5]
        unfold dBegin
        rw [dDropN_held _ _ 8 (Nat.le_refl _) j hj]
        obtain ⟨p, hp⟩ := hb
        rw [mu_k _ _ _ _ (by decide), mu_k _ _ _ _ (by decide), mu_k _ _ _ _ (by decide), hp, bt_mk _ 8 (by decide) j hj]
        by_cases h8 : j < 8
        · simp [h8]
        · simp [h8]
      · rw [f3]; unfold dBegin; rw [dDropN_at, if_pos ⟨rfl, hf⟩]
      · rw [f4]; unfold dBegin; rw [dDropN_at, if_neg (by omega), if_pos ⟨rfl, hf⟩]
      · rw [f3]; decide
    · have hd2 : d < vN v := by omega
      obtain ⟨a1, a2, a3, a4, a5, a6⟩ := hd5 d hd2
      have f0 : vK (vNew v k x) d = vK v d := if_neg g
      have f1 : vU (vNew v k x) d = vU v d := if_neg g
      have f2 : vS (vNew v k x) d = vS v d := if_neg g
      have f3 : ∀ f, vC (vNew v k x) d f = vC v d f := fun f => if_neg g
      have f4 : ∀ f, vT (vNew v k x) d f = vT v d f := fun f => if_neg g
      have f5 : ∀ f, vHas (vNew v k x) d f = vHas v d f := fun f => by unfold vHas; rw [f3]
      have e0 := fun b => key (62 + 3 * (6 * 0 + d)) b (by omega) (by omega) (by omega)
      have e1 := fun b => key (63 + 3 * (6 * 0 + d)) b (by omega) (by omega) (by omega)
      have e2 := fun b => key (64 + 3 * (6 * 0 + d)) b (by omega) (by omega) (by omega)
      rw [f0, f1, f2, e0, e0, e0, e0]
      refine ⟨a1, a2, a3, a4, a5.trans (mk_congr fun f _ => (f5 f).symm), fun f hf => ?_⟩
      rw [f3, f4, e1, e2]
      exact a6 f hf
theorem rc_new_ (h : RC σ M) (hn : vN (sV σ) < 6) {k : Nat} (hk : k < 6) (x : Int32) : RC (setV σ (vNew (sV σ) k x)) (mu (dBegin M (6 * 0 + vN (sV σ)) (nI k) x (vD (sV σ))) (7 + 0) 2 (nI (vN (sV σ) + 1))) := by
  have hb := rc_hb h hn
  rw [show vN (sV σ) = 6 * 0 + vN (sV σ) by omega] at hb
  have key : ∀ a b, a ≠ 7 → ¬ (62 + 3 * vN (sV σ) ≤ a ∧ a < 65 + 3 * vN (sV σ)) → mu (dBegin M (6 * 0 + vN (sV σ)) (nI k) x (vD (sV σ))) (7 + 0) 2 (nI (vN (sV σ) + 1)) a b = M a b := fun a b g1 g2 => by
    rw [mu_n _ _ _ _ (by omega)]
    unfold dBegin
    rw [dDropN_at, if_neg (by omega), if_neg (by omega), if_neg (by omega), mu_n _ _ _ _ (by omega), mu_n _ _ _ _ (by omega), mu_n _ _ _ _ (by omega)]
  refine rc_world h (vc_begin h.2.1 hn hb hk x) (fun a b _ h7 h8 => key a b h7 (by omega)) (fun d hd hd2 => ?_) ⟨by show vN (sV σ) + 1 ≤ 6; omega, h.1.2.2.1.2⟩ (fun u hu => ?_)
  · have hd3 : vN (sV σ) + 1 ≤ d := hd2
    rw [key _ _ (by omega) (by omega)]
    exact rc_hb h hd
  · obtain ⟨a, b, c⟩ := h.1.2.2.2.1 u hu
    refine ⟨a, by show vN u ≤ vN (sV σ) + 1; omega, fun d hd => ?_⟩
    show vK u d = if d = vN (sV σ) then k else vK (sV σ) d
    rw [if_neg (by omega)]
    exact c d hd
theorem rc_image_ (h : RC σ M) : RC (setK σ (some (sV σ))) (mu (wBecN M 1 0 6) 0 9 1) := by
  have hw : ∀ a b, rel a b → a ≠ 8 → ¬ (80 ≤ a ∧ a < 98) → (a ≠ 0 ∨ b ≠ 9) → mu (wBecN M 1 0 6) 0 9 1 a b = M a b := fun a b hr h8 h80 h09 => by
    rw [mu_at, if_neg (by omega), wBec_o (by omega)]
  have hv1 : VC 1 (sV σ) (mu (wBecN M 1 0 6) 0 9 1) := vc_frame (vc_bec (i := 1) h.2.1 (by decide) (by decide)) (fun a b hab => by rw [mu_n _ _ _ _ (by omega)])
  obtain ⟨⟨a1, a2, a3, a4, a5⟩, b, c, d, e, f, g, k, l⟩ := h
  refine ⟨⟨a1, a2, a3, fun u hu => ?_, a5⟩, vc_frame b (fun a b hab => hw _ _ (by unfold rel; omega) (by omega) (by omega) (by omega)), (hw _ _ (by unfold rel; omega) (by omega) (by omega) (by omega)).trans c, mu_s _ _ _ _, fun u hu => ?_, fun q hq => ?_, ⟨(hw _ _ (by unfold rel; omega) (by omega) (by omega) (by omega)).trans g.1, fun k hk => (hw _ _ (by unfold rel; omega) (by omega) (by omega) (by omega)).trans (g.2 k hk)⟩, fun s hs => ?_, fun j hj => ?_⟩
  · cases hu
    exact ⟨a3, Nat.le_refl _, fun _ _ => rfl⟩
  · cases hu
    exact hv1
  · have hq6 : q < 6 := Nat.lt_of_lt_of_le hq a1
    exact rulC_congr (f q hq) (fun b => hw _ _ (by unfold rel; omega) (by omega) (by omega) (by omega)) (fun b => hw _ _ (by unfold rel; omega) (by omega) (by omega) (by omega))
  · exact shC_congr (k s hs) (fun b => hw _ _ (by unfold rel; omega) (by omega) (by omega) (by omega)) (fun b => hw _ _ (by unfold rel; omega) (by omega) (by omega) (by omega))
  · by_cases hj6 : j < 6
    · rw [hw _ _ (by unfold rel; omega) (by omega) (by omega) (by omega)]
      exact l j hj
    · rw [mu_n _ _ _ _ (by omega)]
      unfold wBecN
      rw [if_neg (by omega), if_pos ⟨by omega, by omega, by rw [if_pos (by omega)]; decide⟩, show 62 + 3 * j - 18 * 1 + 18 * 0 = 62 + 3 * (j - 6) by omega]
      exact l _ (by omega)
theorem rc_back_ (h : RC σ M) {u : WV} (hu : sK σ = some u) : RC (setV σ u) (wBecN M 0 1 6) := by
  have h1 := h.2.2.2.2.1 u hu
  refine rc_world h (vc_bec (i := 0) h1 (by decide) (by decide)) (fun a b _ h7 h8 => wBec_o (by omega)) (fun d hd _ => ?_) (h.1.2.2.2.1 u hu).1 (fun u' hu' => ?_)
  · unfold wBecN
    rw [if_neg (by omega), if_pos ⟨by omega, by omega, by rw [if_pos (by omega)]; decide⟩, show 62 + 3 * d - 18 * 0 + 18 * 1 = 62 + 3 * (d + 6) by omega]
    exact h.2.2.2.2.2.2.2.2 _ (by omega)
  · obtain rfl : u = u' := Option.some.inj (hu.symm.trans hu')
    exact ⟨(h.1.2.2.2.1 u hu).1, Nat.le_refl _, fun _ _ => rfl⟩
theorem rc_sheet_ (h : RC σ M) {M' : MM} {s : Nat} (hs : s < 4) {x : Int32 × Nat × (Nat → Int32)} (hM : ∀ a b, a ≠ 54 + 2 * s → a ≠ 55 + 2 * s → M' a b = M a b) (hS : ShC M' s x) (h40 : x.2.1 ≤ 40 ∧ -1 ≤ x.1.toInt ∧ x.1.toInt ≤ 2) : RC (setH σ s x) M' := by
  obtain ⟨⟨a1, a2, a3, a4, a5⟩, b, c, d, e, f, g, k, l⟩ := h
  refine ⟨⟨a1, a2, a3, a4, fun z hz => ?_⟩, vc_frame b (fun a b hab => hM _ _ (by omega) (by omega)), (hM _ _ (by omega) (by omega)).trans c, (hM _ _ (by omega) (by omega)).trans d, fun u hu => vc_frame (e u hu) (fun a b hab => hM _ _ (by omega) (by omega)), fun q hq => ?_, ⟨(hM _ _ (by omega) (by omega)).trans g.1, fun k hk => (hM _ _ (by omega) (by omega)).trans (g.2 k hk)⟩, fun z hz => ?_, fun j hj => ?_⟩
  · show (if z = s then x else sH σ z).2.1 ≤ 40 ∧ _
    by_cases g : z = s
    · rw [show sH (setH σ s x) z = x from if_pos g]
      rw [if_pos g]; exact h40
    · rw [show sH (setH σ s x) z = sH σ z from if_neg g]
      rw [if_neg g]; exact a5 z hz
  · have hq6 : q < 6 := Nat.lt_of_lt_of_le hq a1
    exact rulC_congr (f q hq) (fun b => hM _ _ (by omega) (by omega)) (fun b => hM _ _ (by omega) (by omega))
  · by_cases g : z = s
    · subst g
      rw [show sH (setH σ z x) z = x from if_pos rfl]; exact hS
    · rw [show sH (setH σ s x) z = sH σ z from if_neg g]
      exact shC_congr (k z hz) (fun b => hM _ _ (by omega) (by omega)) (fun b => hM _ _ (by omega) (by omega))
  · rw [hM _ _ (by omega) (by omega)]; exact l j hj
theorem rc_tape_ (h : RC σ M) {M' : MM} {b : Nat} {y : Nat → Int32} (hM : ∀ a c, a ≠ 6 → (a ≠ 5 ∨ c ≠ 2) → rel a c → M' a c = M a c) (h2 : M' 5 2 = nI b) (h6 : ∀ k, k < b → M' 6 k = y k) (hb : b ≤ 160) : RC (setB σ b y) M' := by
  obtain ⟨⟨a1, a2, a3, a4, a5⟩, b, c, d, e, f, g, k, l⟩ := h
  refine ⟨⟨a1, hb, a3, a4, a5⟩, vc_frame b (fun a b hab => hM _ _ (by omega) (by omega) (by unfold rel; omega)), (hM _ _ (by omega) (by omega) (by unfold rel; omega)).trans c, (hM _ _ (by omega) (by omega) (by unfold rel; omega)).trans d, fun u hu => vc_frame (e u hu) (fun a b hab => hM _ _ (by omega) (by omega) (by unfold rel; omega)), fun q hq => ?_, ⟨h2, h6⟩, fun z hz => ?_, fun j hj => ?_⟩
  · have hq6 : q < 6 := Nat.lt_of_lt_of_le hq a1
    exact rulC_congr (f q hq) (fun b => hM _ _ (by omega) (by omega) (by unfold rel; omega)) (fun b => hM _ _ (by omega) (by omega) (by unfold rel; omega))
  · exact shC_congr (k z hz) (fun b => hM _ _ (by omega) (by omega) (by unfold rel; omega)) (fun b => hM _ _ (by omega) (by omega) (by unfold rel; omega))
  · rw [hM _ _ (by omega) (by omega) (by unfold rel; omega)]; exact l j hj
end RCM
