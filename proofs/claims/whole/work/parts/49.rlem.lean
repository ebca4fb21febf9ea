/-! what a call lays in the reference -/
theorem vrf_cg {v : WV} {M M' : MM} (h : VRf v M) (h0 : ∀ b, (b = 4 ∨ b = 7 ∨ b = 12) → M' 0 b = M 0 b) (h1 : ∀ a b, 4 ≤ a → a ≤ 7 → M' a b = M a b) : VRf v M' := by
  obtain ⟨g1, g2, g3, g4, g5⟩ := h
  refine ⟨g1, (h0 _ (by omega)).trans g2, (h0 _ (by omega)).trans g3, (h0 _ (by omega)).trans g4, fun d hd => ?_⟩
  obtain ⟨a1, a2, a3, a4, a5⟩ := g5 d hd
  exact ⟨(h1 _ _ (by omega) (by omega)).trans a1, a2, (h1 _ _ (by omega) (by omega)).trans a3, (h1 _ _ (by omega) (by omega)).trans a4, fun f hf => ⟨(h1 _ _ (by omega) (by omega)).trans (a5 f hf).1, (h1 _ _ (by omega) (by omega)).trans (a5 f hf).2.1, (a5 f hf).2.2⟩⟩
section RRX
variable {σ : SV} {M M' : MM}
theorem rr_feed (h : RR σ M) (hb : sB σ < 160) {x : Int32} (hx : 0 ≤ x.toInt) : RR (setB1 σ x) (mu (mu M 3 (sB σ) x) 0 6 (nI (sB σ + 1))) := by
  obtain ⟨⟨a1, a2, a3, a4, a5⟩, b, c, d, e, f, g⟩ := h
  have e1 : ∀ a b, a ≠ 3 → (a ≠ 0 ∨ b ≠ 6) → mu (mu M 3 (sB σ) x) 0 6 (nI (sB σ + 1)) a b = M a b := fun a b h3 h6 => by rw [mu_at, if_neg (by omega), mu_n _ _ _ _ h3]
  refine ⟨⟨a1, by show sB σ + 1 ≤ 160; omega, a3, a4, a5⟩, vrf_cg b (fun b hb => e1 _ _ (by decide) (by omega)) (fun a b h1 h2 => e1 _ _ (by omega) (by omega)), (e1 _ _ (by decide) (by decide)).trans c, krf_cg d (fun b h1 h2 => e1 _ _ (by decide) (by omega)) (fun a b h1 h2 => e1 _ _ (by omega) (by omega)), fun q hq => trf_cg (e q hq) (fun b _ => e1 _ _ (by decide) (by omega)) (e1 _ _ (by decide) (by omega)), ⟨mu_s _ _ _ _, fun k hk => ?_⟩, fun s hs => srf_cg (g s hs) (fun a b h1 h2 => e1 _ _ (by omega) (by omega))⟩
  have hk' : k < sB σ + 1 := hk
  rw [mu_n _ _ _ _ (by decide)]
  show _ = (if k = sB σ then x else sY σ k) ∧ 0 ≤ (if k = sB σ then x else sY σ k).toInt
  by_cases q : k = sB σ
  · subst q; rw [mu_s, if_pos rfl]; exact ⟨rfl, hx⟩
  · rw [mu_k _ _ _ _ q, if_neg q]; exact f.2 k (by omega)
/-- a disk more -/
theorem rr_new (h : RR σ M) (hn : vN (sV σ) < 6) {k : Nat} (hk : k < 6) {x : Int32} (k4 : M' 4 (vN (sV σ)) = nI k) (k5 : M' 5 (2 * vN (sV σ)) = x) (k6 : M' 5 (2 * vN (sV σ) + 1) = vD (sV σ)) (kf : ∀ f, f < 8 → M' 6 (8 * vN (sV σ) + f) = -1 ∧ M' 7 (8 * vN (sV σ) + f) = -100) (kn : M' 0 12 = nI (vN (sV σ) + 1)) (ho : ∀ a b, (a ≠ 0 ∨ b ≠ 12) → (a ≠ 4 ∨ b ≠ vN (sV σ)) → (a ≠ 5 ∨ b < 2 * vN (sV σ) ∨ 2 * vN (sV σ) + 1 < b) → (a ≠ 6 ∨ b < 8 * vN (sV σ) ∨ 8 * vN (sV σ) + 8 ≤ b) → (a ≠ 7 ∨ b < 8 * vN (sV σ) ∨ 8 * vN (sV σ) + 8 ≤ b) → relR a b → M' a b = M a b) : RR (setV σ (vNew (sV σ) k x)) M' := by
  refine rr_V (v' := vNew (sV σ) k x) h ⟨by show vN (sV σ) + 1 ≤ 6; omega, ?_, ?_, kn, fun d hd => ?_⟩ (fun a b hr g0 g4 g5 g6 g7 => ho a b (by omega) (by omega) (by omega) (by omega) (by omega) hr) ⟨by show vN (sV σ) + 1 ≤ 6; omega, h.1.2.2.1.2.1, h.1.2.2.1.2.2⟩ (fun u hu => ?_)
  · rw [ho 0 7 (by decide) (by omega) (by omega) (by omega) (by omega) (by unfold relR; omega)]; exact rr_day h
  · rw [ho 0 4 (by decide) (by omega) (by omega) (by omega) (by omega) (by unfold relR; omega)]; exact rr_rule h
  · have hd' : d < vN (sV σ) + 1 := hd
    show M' 4 d = nI (if d = vN (sV σ) then k else vK (sV σ) d) ∧ (if d = vN (sV σ) then k else vK (sV σ) d) < 6 ∧ M' 5 (2 * d) = (if d = vN (sV σ) then x else vU (sV σ) d) ∧ M' 5 (2 * d + 1) = (if d = vN (sV σ) then vD (sV σ) else vS (sV σ) d) ∧ ∀ f, f < 8 → (M' 6 (8 * d + f) = (if d = vN (sV σ) then -1 else vC (sV σ) d f) ∧ M' 7 (8 * d + f) = (if d = vN (sV σ) then -100 else vT (sV σ) d f) ∧ -1 ≤ (if d = vN (sV σ) then (-1 : Int32) else vC (sV σ) d f).toInt)
    by_cases g : d = vN (sV σ)
    · subst g
      rw [if_pos rfl, if_pos rfl, if_pos rfl]
      exact ⟨k4, hk, k5, k6, fun f hf => by rw [if_pos rfl, if_pos rfl]; exact ⟨(kf f hf).1, (kf f hf).2, by decide⟩⟩
    · rw [if_neg g, if_neg g, if_neg g]
      obtain ⟨a1, a2, a3, a4, a5⟩ := h.2.1.2.2.2.2 d (by omega)
      refine ⟨(ho _ _ (by omega) (by omega) (by omega) (by omega) (by omega) (by unfold relR; omega)).trans a1, a2, (ho _ _ (by omega) (by omega) (by omega) (by omega) (by omega) (by unfold relR; omega)).trans a3, (ho _ _ (by omega) (by omega) (by omega) (by omega) (by omega) (by unfold relR; omega)).trans a4, fun f hf => ?_⟩
      rw [if_neg g, if_neg g]
      exact ⟨(ho _ _ (by omega) (by omega) (by omega) (by omega) (by omega) (by unfold relR; omega)).trans (a5 f hf).1, (ho _ _ (by omega) (by omega) (by omega) (by omega) (by omega) (by unfold relR; omega)).trans (a5 f hf).2.1, (a5 f hf).2.2⟩
  · obtain ⟨k1, k2, k3⟩ := h.1.2.2.2.1 u hu
    refine ⟨k1, by show vN u ≤ vN (sV σ) + 1; omega, fun d hd => ?_⟩
    show vK u d = if d = vN (sV σ) then k else vK (sV σ) d
    rw [if_neg (by omega)]
    exact k3 d hd
/-- the tape's bytes laid as a text that isn't told yet -/
theorem rr_laid (h : RR σ M) (hn : sN σ < 6) (ho : ∀ a b, (a ≠ 0 ∨ b ≠ 6) → (a ≠ 1 ∨ b < 160 * sN σ ∨ 160 * sN σ + 160 ≤ b) → (a ≠ 2 ∨ b ≠ sN σ) → relR a b → M' a b = M a b) (k6 : M' 0 6 = 0) : RR (setB σ 0 (sY σ)) M' := by
  obtain ⟨⟨a1, a2, a3, a4, a5⟩, b, c, d, e, f, g⟩ := h
  exact ⟨⟨a1, Nat.zero_le _, a3, a4, a5⟩, vrf_cg b (fun b hb => ho _ _ (by omega) (by omega) (by omega) (by unfold relR; omega)) (fun a b h1 h2 => ho _ _ (by omega) (by omega) (by omega) (by unfold relR; omega)), (ho _ _ (by omega) (by omega) (by omega) (by unfold relR; omega)).trans c, krf_cg d (fun b h1 h2 => ho _ _ (by omega) (by omega) (by omega) (by unfold relR; omega)) (fun a b h1 h2 => ho _ _ (by omega) (by omega) (by omega) (by unfold relR; omega)), fun q hq => trf_cg (e q hq) (fun b hb => ho _ _ (by omega) (by have : q < sN σ := hq; omega) (by omega) (by unfold relR; omega)) (ho _ _ (by omega) (by omega) (by have : q < sN σ := hq; omega) (by unfold relR; omega)), ⟨k6, fun k hk => absurd hk (Nat.not_lt_zero _)⟩, fun s hs => srf_cg (g s hs) (fun a b h1 h2 => ho _ _ (by omega) (by omega) (by omega) (by unfold relR; omega))⟩
/-- a text more -/
theorem rr_addT (h : RR (setB σ 0 (sY σ)) M) (hn : sN σ < 6) (hT : TRf M (sN σ) (pTx (sY σ) (sB σ))) : RR (addT σ) (mu M 0 3 (nI (sN σ + 1))) := by
  obtain ⟨⟨a1, a2, a3, a4, a5⟩, b, c, d, e, f, g⟩ := h
  have e1 : ∀ a b, (a ≠ 0 ∨ b ≠ 3) → mu M 0 3 (nI (sN σ + 1)) a b = M a b := fun a b h3 => by rw [mu_at, if_neg (by omega)]
  refine ⟨⟨by show sN σ + 1 ≤ 6; omega, Nat.zero_le _, ⟨a3.1, Nat.lt_succ_of_lt a3.2.1, a3.2.2⟩, fun u hu => ⟨⟨(a4 u hu).1.1, Nat.lt_succ_of_lt (a4 u hu).1.2.1, (a4 u hu).1.2.2⟩, (a4 u hu).2⟩, a5⟩, vrf_cg b (fun b hb => e1 _ _ (by omega)) (fun a b h1 h2 => e1 _ _ (by omega)), mu_s _ _ _ _, krf_cg d (fun b h1 h2 => e1 _ _ (by omega)) (fun a b h1 h2 => e1 _ _ (by omega)), fun q hq => ?_, ⟨(e1 _ _ (by decide)).trans f.1, fun k hk => absurd hk (Nat.not_lt_zero _)⟩, fun s hs => srf_cg (g s hs) (fun a b h1 h2 => e1 _ _ (by omega))⟩
  have hq' : q < sN σ + 1 := hq
  show TRf _ q (fun p nm => if q = sN σ then pTx (sY σ) (sB σ) p nm else sT σ q p nm)
  by_cases g2 : q = sN σ
  · subst g2
    rw [show (fun p nm => if sN σ = sN σ then pTx (sY σ) (sB σ) p nm else sT σ (sN σ) p nm) = pTx (sY σ) (sB σ) from funext fun p => funext fun nm => if_pos rfl]
    exact trf_cg hT (fun b _ => e1 _ _ (by omega)) (e1 _ _ (by omega))
  · rw [show (fun p nm => if q = sN σ then pTx (sY σ) (sB σ) p nm else sT σ q p nm) = sT σ q from funext fun p => funext fun nm => if_neg g2]
    exact trf_cg (e q (by show q < sN σ; omega)) (fun b _ => e1 _ _ (by omega)) (e1 _ _ (by omega))
/-- an image -/
theorem rr_image (h : RR σ M) (k9 : ∀ j, j < 12 → M' 9 j = M 5 j) (k10 : ∀ j, j < 48 → M' 10 j = M 6 j ∧ M' 11 j = M 7 j) (q1 : M' 0 33 = nI (vN (sV σ))) (q2 : M' 0 34 = vD (sV σ)) (q3 : M' 0 35 = nI (vR (sV σ))) (ho : ∀ a b, a ≠ 9 → a ≠ 10 → a ≠ 11 → (a ≠ 0 ∨ b < 33 ∨ 35 < b) → M' a b = M a b) : RR (setK σ (some (sV σ))) M' := by
  obtain ⟨⟨a1, a2, a3, a4, a5⟩, b, c, d, e, f, g⟩ := h
  have h6 : vN (sV σ) ≤ 6 := b.1
  refine ⟨⟨a1, a2, a3, fun u hu => ?_, a5⟩, vrf_cg b (fun b hb => ho _ _ (by omega) (by omega) (by omega) (by omega)) (fun a b h1 h2 => ho _ _ (by omega) (by omega) (by omega) (by omega)), (ho _ _ (by decide) (by decide) (by decide) (by omega)).trans c, ⟨(fun e => by cases e), fun u hu => ?_⟩, fun q hq => trf_cg (e q hq) (fun b hb => ho _ _ (by decide) (by decide) (by decide) (by omega)) (ho _ _ (by decide) (by decide) (by decide) (by omega)), ⟨(ho _ _ (by decide) (by decide) (by decide) (by omega)).trans f.1, fun k hk => ⟨(ho _ _ (by decide) (by decide) (by decide) (by omega)).trans (f.2 k hk).1, (f.2 k hk).2⟩⟩, fun s hs => srf_cg (g s hs) (fun a b h1 h2 => ho _ _ (by omega) (by omega) (by omega) (by omega))⟩
  · have hu' : some (sV σ) = some u := hu
    cases hu'
    exact ⟨a3, Nat.le_refl _, fun _ _ => rfl⟩
  · have hu' : some (sV σ) = some u := hu
    cases hu'
    refine ⟨q1, q2, q3, fun x hx => ?_⟩
    obtain ⟨b1, b2, b3, b4, b5⟩ := b.2.2.2.2 x hx
    refine ⟨(k9 _ (by omega)).trans b3, (k9 _ (by omega)).trans b4, b2, fun y hy => ?_⟩
    exact ⟨(k10 _ (by omega)).1.trans (b5 y hy).1, (k10 _ (by omega)).2.trans (b5 y hy).2.1, (b5 y hy).2.2⟩
/-- as in the image -/
theorem rr_backr (h : RR σ M) {u : WV} (hu : sK σ = some u) (k5 : ∀ j, j < 12 → M' 5 j = M 9 j) (k6 : ∀ j, j < 48 → M' 6 j = M 10 j ∧ M' 7 j = M 11 j) (q1 : M' 0 12 = nI (vN u)) (q2 : M' 0 7 = vD u) (q3 : M' 0 4 = nI (vR u)) (ho : ∀ a b, a ≠ 5 → a ≠ 6 → a ≠ 7 → (a ≠ 0 ∨ (b ≠ 4 ∧ b ≠ 7 ∧ b ≠ 12)) → M' a b = M a b) : RR (setV σ u) M' := by
  obtain ⟨k1, k2, k3⟩ := h.1.2.2.2.1 u hu
  obtain ⟨r1, r2, r3, r4⟩ := h.2.2.2.1.2 u hu
  have h6 := rr_n6 h
  refine rr_V (v' := u) h ⟨k1.1, q2, q3, q1, fun d hd => ?_⟩ (fun a b hr g0 g4 g5 g6 g7 => ho a b g5 g6 g7 (by omega)) k1 (fun w hw => ?_)
  · obtain ⟨b1, b2, b3, b4⟩ := r4 d hd
    have h6u := k1.1
    refine ⟨by rw [ho 4 d (by decide) (by decide) (by decide) (by omega), rr_kd h (by omega), k3 d hd], b3, (k5 _ (by omega)).trans b1, (k5 _ (by omega)).trans b2, fun f hf => ⟨(k6 _ (by omega)).1.trans (b4 f hf).1, (k6 _ (by omega)).2.trans (b4 f hf).2.1, (b4 f hf).2.2⟩⟩
  · rw [hu] at hw
    cases hw
    exact ⟨k1, Nat.le_refl _, fun _ _ => rfl⟩
/-- a sheet -/
theorem rr_sheet {s : Nat} {x : Int32 × Nat × (Nat → Int32)} (h : RR σ M) (hs : s < 4) (hx : SRf M' s x) (h40 : x.2.1 ≤ 40 ∧ -1 ≤ x.1.toInt ∧ x.1.toInt ≤ 2) (ho : ∀ a b, (a = 12 ∨ a = 13 ∨ a = 14 → b ≠ s) → (a = 15 → b < 40 * s ∨ 40 * s + 40 ≤ b) → relR a b → M' a b = M a b) : RR (setH σ s x) M' := by
  obtain ⟨⟨a1, a2, a3, a4, a5⟩, b, c, d, e, f, g⟩ := h
  refine ⟨⟨a1, a2, a3, a4, fun s2 hs2 => ?_⟩, vrf_cg b (fun b hb => ho _ _ (by omega) (by omega) (by unfold relR; omega)) (fun a b h1 h2 => ho _ _ (by omega) (by omega) (by unfold relR; omega)), (ho _ _ (by omega) (by omega) (by unfold relR; omega)).trans c, krf_cg d (fun b h1 h2 => ho _ _ (by omega) (by omega) (by unfold relR; omega)) (fun a b h1 h2 => ho _ _ (by omega) (by omega) (by unfold relR; omega)), fun q hq => trf_cg (e q hq) (fun b hb => ho _ _ (by omega) (by omega) (by unfold relR; omega)) (ho _ _ (by omega) (by omega) (by unfold relR; omega)), ⟨(ho _ _ (by omega) (by omega) (by unfold relR; omega)).trans f.1, fun k hk => ⟨(ho _ _ (by omega) (by omega) (by unfold relR; omega)).trans (f.2 k hk).1, (f.2 k hk).2⟩⟩, fun s2 hs2 => ?_⟩
  · show (if s2 = s then x else sH σ s2).2.1 ≤ 40 ∧ -1 ≤ (if s2 = s then x else sH σ s2).1.toInt ∧ (if s2 = s then x else sH σ s2).1.toInt ≤ 2
    by_cases q : s2 = s
    · rw [if_pos q]; exact h40
    · rw [if_neg q]; exact a5 s2 hs2
  · show SRf M' s2 (if s2 = s then x else sH σ s2)
    by_cases q : s2 = s
    · rw [if_pos q, q]; exact hx
    · rw [if_neg q]
      obtain ⟨g1, g2⟩ := g s2 hs2
      refine ⟨(ho _ _ (by omega) (by omega) (by unfold relR; omega)).trans g1, fun hn => ?_⟩
      obtain ⟨g3, g4, g5⟩ := g2 hn
      have hl := (a5 s2 hs2).1
      exact ⟨(ho _ _ (by omega) (by omega) (by unfold relR; omega)).trans g3, (ho _ _ (by omega) (by omega) (by unfold relR; omega)).trans g4, fun k hk => (ho _ _ (by omega) (by omega) (by unfold relR; omega)).trans (g5 k hk)⟩
end RRX
