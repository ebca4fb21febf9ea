/-! THE REFERENCE: its memory tells the same state -/
def VRf (v : WV) (M : MM) : Prop := vN v ≤ 6 ∧ M 0 7 = vD v ∧ M 0 4 = nI (vR v) ∧ M 0 12 = nI (vN v) ∧ ∀ d, d < vN v → (M 4 d = nI (vK v d) ∧ vK v d < 6 ∧ M 5 (2 * d) = vU v d ∧ M 5 (2 * d + 1) = vS v d ∧ ∀ f, f < 8 → (M 6 (8 * d + f) = vC v d f ∧ M 7 (8 * d + f) = vT v d f ∧ -1 ≤ (vC v d f).toInt))
def KRf (o : Option WV) (M : MM) : Prop := (o = none → M 0 33 = -1) ∧ ∀ u, o = some u → (M 0 33 = nI (vN u) ∧ M 0 34 = vD u ∧ M 0 35 = nI (vR u) ∧ ∀ d, d < vN u → (M 9 (2 * d) = vU u d ∧ M 9 (2 * d + 1) = vS u d ∧ vK u d < 6 ∧ ∀ f, f < 8 → (M 10 (8 * d + f) = vC u d f ∧ M 11 (8 * d + f) = vT u d f ∧ -1 ≤ (vC u d f).toInt)))
def TRf (M : MM) (q : Nat) (T : Nat → (Nat → Int32) → Int32) : Prop := ∃ (n : Nat) (Y : Nat → Int32), n ≤ 160 ∧ M 2 q = nI n ∧ (∀ k, k < n → (M 1 (160 * q + k) = Y k ∧ 0 ≤ (Y k).toInt)) ∧ pRd Y n 0 3 = -1 ∧ ∀ p, p < 3 → pTx Y n p = T p
def SRf (M : MM) (s : Nat) (h : Int32 × Nat × (Nat → Int32)) : Prop := M 12 s = b2i (!decide (h.1 = -1)) ∧ (h.1 ≠ -1 → M 13 s = h.1 ∧ M 14 s = nI h.2.1 ∧ ∀ k, k < h.2.1 → M 15 (40 * s + k) = h.2.2 k)
def RR (σ : SV) (M : MM) : Prop := sOk σ ∧ VRf (sV σ) M ∧ M 0 3 = nI (sN σ) ∧ KRf (sK σ) M ∧ (∀ q, q < sN σ → TRf M q (sT σ q)) ∧ (M 0 6 = nI (sB σ) ∧ ∀ k, k < sB σ → M 3 k = sY σ k ∧ 0 ≤ (sY σ k).toInt) ∧ ∀ s, s < 4 → SRf M s (sH σ s)
def relR (a b : Nat) : Prop := (a = 0 ∧ (b = 3 ∨ b = 4 ∨ b = 6 ∨ b = 7 ∨ b = 12 ∨ b = 33 ∨ b = 34 ∨ b = 35)) ∨ (1 ≤ a ∧ a ≤ 7) ∨ (9 ≤ a ∧ a ≤ 15)
/-- but for what reading a text scribbles -/
def Sc (M M' : MM) : Prop := ∀ a b, (a ≠ 0 ∨ b < 13 ∨ 27 < b) → M' a b = M a b
theorem Sc.rf {M : MM} : Sc M M := fun _ _ _ => rfl
theorem Sc.tr {A B D : MM} (h1 : Sc A B) (h2 : Sc B D) : Sc A D := fun a b h => (h2 a b h).trans (h1 a b h)
/-- but for contents and stamps, and that -/
def Cq (M M' : MM) : Prop := ∀ a b, a ≠ 6 → a ≠ 7 → (a ≠ 0 ∨ b < 13 ∨ 27 < b) → M' a b = M a b
theorem Cq.rf {M : MM} : Cq M M := fun _ _ _ _ _ => rfl
theorem Cq.tr {A B D : MM} (h1 : Cq A B) (h2 : Cq B D) : Cq A D := fun a b x y h => (h2 a b x y h).trans (h1 a b x y h)
theorem Sc.cq {A B : MM} (h : Sc A B) : Cq A B := fun a b _ _ g => h a b g
theorem vrf_frame {v : WV} {M M' : MM} (h : VRf v M) (hM : ∀ a b, relR a b → M' a b = M a b) : VRf v M' := by
  obtain ⟨h1, h2, h3, h4, h5⟩ := h
  refine ⟨h1, (hM _ _ (by unfold relR; omega)).trans h2, (hM _ _ (by unfold relR; omega)).trans h3, (hM _ _ (by unfold relR; omega)).trans h4, fun d hd => ?_⟩
  obtain ⟨a1, a2, a3, a4, a5⟩ := h5 d hd
  exact ⟨(hM _ _ (by unfold relR; omega)).trans a1, a2, (hM _ _ (by unfold relR; omega)).trans a3, (hM _ _ (by unfold relR; omega)).trans a4, fun f hf => ⟨(hM _ _ (by unfold relR; omega)).trans (a5 f hf).1, (hM _ _ (by unfold relR; omega)).trans (a5 f hf).2.1, (a5 f hf).2.2⟩⟩
theorem trf_cg {M M' : MM} {q : Nat} {T : Nat → (Nat → Int32) → Int32} (h : TRf M q T) (h1 : ∀ b, b < 160 → M' 1 (160 * q + b) = M 1 (160 * q + b)) (h2 : M' 2 q = M 2 q) : TRf M' q T := by
  obtain ⟨n, Y, a, b, c, d, e⟩ := h
  exact ⟨n, Y, a, h2.trans b, fun k hk => ⟨(h1 k (by omega)).trans (c k hk).1, (c k hk).2⟩, d, e⟩
theorem krf_cg {o : Option WV} {M M' : MM} (h : KRf o M) (h0 : ∀ b, 33 ≤ b → b < 36 → M' 0 b = M 0 b) (h1 : ∀ a b, 9 ≤ a → a < 12 → M' a b = M a b) : KRf o M' := by
  refine ⟨fun e => (h0 _ (by decide) (by decide)).trans (h.1 e), fun u hu => ?_⟩
  obtain ⟨a1, a2, a3, a4⟩ := h.2 u hu
  refine ⟨(h0 _ (by decide) (by decide)).trans a1, (h0 _ (by decide) (by decide)).trans a2, (h0 _ (by decide) (by decide)).trans a3, fun d hd => ?_⟩
  obtain ⟨b1, b2, b3, b4⟩ := a4 d hd
  exact ⟨(h1 _ _ (by decide) (by decide)).trans b1, (h1 _ _ (by decide) (by decide)).trans b2, b3, fun f hf => ⟨(h1 _ _ (by decide) (by decide)).trans (b4 f hf).1, (h1 _ _ (by decide) (by decide)).trans (b4 f hf).2.1, (b4 f hf).2.2⟩⟩
theorem srf_cg {M M' : MM} {s : Nat} {h : Int32 × Nat × (Nat → Int32)} (hs : SRf M s h) (h1 : ∀ a b, 12 ≤ a → a ≤ 15 → M' a b = M a b) : SRf M' s h :=
  ⟨(h1 _ _ (by decide) (by decide)).trans hs.1, fun hn => ⟨(h1 _ _ (by decide) (by decide)).trans (hs.2 hn).1, (h1 _ _ (by decide) (by decide)).trans (hs.2 hn).2.1, fun k hk => (h1 _ _ (by decide) (by decide)).trans ((hs.2 hn).2.2 k hk)⟩⟩
/-- the world alone is laid anew -/
theorem rr_V {σ : SV} {M M' : MM} {v' : WV} (h : RR σ M) (hv : VRf v' M') (hM : ∀ a b, relR a b → (a ≠ 0 ∨ (b ≠ 4 ∧ b ≠ 7 ∧ b ≠ 12)) → a ≠ 4 → a ≠ 5 → a ≠ 6 → a ≠ 7 → M' a b = M a b) (ho : vOk (sN σ) v') (hk : kOk (sN σ) v' (sK σ)) : RR (setV σ v') M' := by
  obtain ⟨⟨a1, a2, a3, a4, a5⟩, b, c, d, e, f, g⟩ := h
  refine ⟨⟨a1, a2, ho, hk, a5⟩, hv, (hM _ _ (by unfold relR; omega) (by omega) (by omega) (by omega) (by omega) (by omega)).trans c, krf_cg d (fun b h1 h2 => hM _ _ (by unfold relR; omega) (by omega) (by omega) (by omega) (by omega) (by omega)) (fun a b h1 h2 => hM _ _ (by unfold relR; omega) (by omega) (by omega) (by omega) (by omega) (by omega)), fun q hq => trf_cg (e q hq) (fun b _ => hM _ _ (by unfold relR; omega) (by omega) (by omega) (by omega) (by omega) (by omega)) (hM _ _ (by unfold relR; omega) (by omega) (by omega) (by omega) (by omega) (by omega)), ⟨(hM _ _ (by unfold relR; omega) (by omega) (by omega) (by omega) (by omega) (by omega)).trans f.1, fun k hk => ⟨(hM _ _ (by unfold relR; omega) (by omega) (by omega) (by omega) (by omega) (by omega)).trans (f.2 k hk).1, (f.2 k hk).2⟩⟩, fun s hs => srf_cg (g s hs) (fun a b h1 h2 => hM _ _ (by unfold relR; omega) (by omega) (by omega) (by omega) (by omega) (by omega))⟩
theorem setV_same (σ : SV) : setV σ (sV σ) = σ := rfl
theorem rr_frame {σ : SV} {M M' : MM} (h : RR σ M) (hM : ∀ a b, relR a b → M' a b = M a b) : RR σ M' :=
  rr_V (v' := sV σ) h (vrf_frame h.2.1 hM) (fun a b hr _ _ _ _ _ => hM a b hr) h.1.2.2.1 h.1.2.2.2.1
theorem rr_Sc {σ : SV} {M M' : MM} (h : RR σ M) (hS : Sc M M') : RR σ M' := rr_frame h (fun a b hr => hS a b (by unfold relR at hr; omega))
theorem rr_cell {σ : SV} {M : MM} (h : RR σ M) {b : Nat} (x : Int32) (hb : ¬ relR 0 b) : RR σ (mu M 0 b x) := rr_frame h (fun a c hr => by rw [mu_at, if_neg (fun e => hb (by rw [← e.1, ← e.2]; exact hr))])
theorem rr_8 {σ : SV} {M : MM} (h : RR σ M) {b : Nat} (x : Int32) : RR σ (mu M 8 b x) := rr_frame h (fun a c hr => by rw [mu_n _ _ _ _ (by unfold relR at hr; omega)])
section RRL
variable {σ : SV} {M : MM}
theorem rr_n6 (h : RR σ M) : vN (sV σ) ≤ 6 := h.2.1.1
theorem rr_q (h : RR σ M) : vR (sV σ) < sN σ := h.1.2.2.1.2.1
theorem rr_day (h : RR σ M) : M 0 7 = vD (sV σ) := h.2.1.2.1
theorem rr_rule (h : RR σ M) : M 0 4 = nI (vR (sV σ)) := h.2.1.2.2.1
theorem rr_size (h : RR σ M) : M 0 12 = nI (vN (sV σ)) := h.2.1.2.2.2.1
theorem rr_kd (h : RR σ M) {d : Nat} (hd : d < vN (sV σ)) : M 4 d = nI (vK (sV σ) d) := (h.2.1.2.2.2.2 d hd).1
theorem rr_k6 (h : RR σ M) {d : Nat} (hd : d < vN (sV σ)) : vK (sV σ) d < 6 := (h.2.1.2.2.2.2 d hd).2.1
theorem rr_num (h : RR σ M) {d : Nat} (hd : d < vN (sV σ)) : M 5 (2 * d) = vU (sV σ) d := (h.2.1.2.2.2.2 d hd).2.2.1
theorem rr_since (h : RR σ M) {d : Nat} (hd : d < vN (sV σ)) : M 5 (2 * d + 1) = vS (sV σ) d := (h.2.1.2.2.2.2 d hd).2.2.2.1
theorem rr_ct (h : RR σ M) {d f : Nat} (hd : d < vN (sV σ)) (hf : f < 8) : M 6 (8 * d + f) = vC (sV σ) d f := ((h.2.1.2.2.2.2 d hd).2.2.2.2 f hf).1
theorem rr_st (h : RR σ M) {d f : Nat} (hd : d < vN (sV σ)) (hf : f < 8) : M 7 (8 * d + f) = vT (sV σ) d f := ((h.2.1.2.2.2.2 d hd).2.2.2.2 f hf).2.1
theorem rr_nn (h : RR σ M) {d f : Nat} (hd : d < vN (sV σ)) (hf : f < 8) : -1 ≤ (vC (sV σ) d f).toInt := ((h.2.1.2.2.2.2 d hd).2.2.2.2 f hf).2.2
theorem rr_tc (h : RR σ M) : M 0 3 = nI (sN σ) := h.2.2.1
theorem rr_tb (h : RR σ M) : M 0 6 = nI (sB σ) := h.2.2.2.2.2.1.1
theorem rr_ty (h : RR σ M) {k : Nat} (hk : k < sB σ) : M 3 k = sY σ k := (h.2.2.2.2.2.1.2 k hk).1
theorem rr_tn (h : RR σ M) {k : Nat} (hk : k < sB σ) : 0 ≤ (sY σ k).toInt := (h.2.2.2.2.2.1.2 k hk).2
theorem rr_sh (h : RR σ M) {s : Nat} (hs : s < 4) : SRf M s (sH σ s) := h.2.2.2.2.2.2 s hs
theorem rr_si (h : RR σ M) {s : Nat} (hs : s < 4) : M 12 s = b2i (!decide ((sH σ s).1 = -1)) := (rr_sh h hs).1
theorem rr_so (h : RR σ M) {s : Nat} (hs : s < 4) (hn : (sH σ s).1 ≠ -1) : M 13 s = (sH σ s).1 := ((rr_sh h hs).2 hn).1
theorem rr_sz (h : RR σ M) {s : Nat} (hs : s < 4) (hn : (sH σ s).1 ≠ -1) : M 14 s = nI (sH σ s).2.1 := ((rr_sh h hs).2 hn).2.1
theorem rr_it (h : RR σ M) {s k : Nat} (hs : s < 4) (hn : (sH σ s).1 ≠ -1) (hk : k < (sH σ s).2.1) : M 15 (40 * s + k) = (sH σ s).2.2 k := ((rr_sh h hs).2 hn).2.2 k hk
end RRL
/-! contracts' ends of the reference -/
def sQ (M : MM) (x : Int32) : XF := fun r M' => r = some (.int x) ∧ Sc M M'
def oQ (F : SV × Int32) : XF := fun r M' => r = some (.int F.2) ∧ RR F.1 M' ∧ M' 0 28 = 0
theorem foq {σ' : SV} {x : Int32} {M' : MM} {F : SV × Int32} (e : F = (σ', x)) (h : RR σ' M') (hg : M' 0 28 = 0) : oQ F (some (.int x)) M' := by
  subst e
  exact ⟨rfl, h, hg⟩
theorem faq {σ : SV} {x y : Int32} {M' : MM} (e : y = x) (h : RR σ M') (hg : M' 0 28 = 0) : oQ (σ, y) (some (.int x)) M' := by
  subst e
  exact ⟨rfl, h, hg⟩
theorem fsq {x y : Int32} {M M' : MM} (e : y = x) (h : Sc M M') : sQ M y (some (.int x)) M' := by
  subst e
  exact ⟨rfl, h⟩
theorem in_B {x : Int32} {n : Nat} : decide ((0 : Int) ≤ x.toInt ∧ x.toInt ≤ (n : Int) - 1) = inB x n := by
  unfold inB
  by_cases h : 0 ≤ x.toInt ∧ x.toInt ≤ (n : Int) - 1
  · rw [decide_eq_true h, decide_eq_true (by omega)]
  · rw [decide_eq_false h, decide_eq_false (by omega)]
