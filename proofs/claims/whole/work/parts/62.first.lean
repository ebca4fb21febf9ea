/-! the state at the start, the same for both -/
def frR (i : Nat) : Int32 := if i < 46 then frB i else 32
theorem fr_rd : pRd frB 46 0 3 = -1 := by decide +kernel
theorem fr_rdR : pRd frR 48 0 3 = -1 := by decide +kernel
theorem fr_st : ∀ p, p < 3 → (pPt frB 46 p (pX frB 46 p)).1 = true ∧ (pPt frR 48 p (pX frR 48 p)).1 = true ∧ (pPt frR 48 p (pX frR 48 p)).2.2.1 = (pPt frB 46 p (pX frB 46 p)).2.2.1 ∧ pX frB 46 p ≤ 46 ∧ pX frR 48 p ≤ 48 := by decide +kernel
theorem fr_tx (p : Nat) (hp : p < 3) : pTx frR 48 p = pTx frB 46 p := by
  obtain ⟨h1, h2, h3, h4, h5⟩ := fr_st p hp
  have g1 := ((PG_Pt (Y := frB) (n := 46) h4 hp).2 h1).2.2
  have g2 := ((PG_Pt (Y := frR) (n := 48) h5 hp).2 h2).2.2
  refine funext fun nm => ?_
  obtain ⟨s1, a1, b1, -⟩ := g1 nm 0 (fun _ => 0) (by decide)
  obtain ⟨s2, a2, b2, -⟩ := g2 nm 0 (fun _ => 0) (by decide)
  rw [h3, a1] at a2
  have e : s1 = s2 := congrArg Prod.snd a2
  show (pPt frR 48 p (pX frR 48 p)).2.2.2 nm = (pPt frB 46 p (pX frB 46 p)).2.2.2 nm
  rw [← b1, ← b2, e]
def sF : SV := ((0, 0, 0, (fun _ => 0), (fun _ => 0), (fun _ => 0), (fun _ _ => -1), (fun _ _ => -100)), (1, fun _ p nm => pTx frB 46 p nm), none, (0, fun _ => 0), fun _ => (-1, 0, fun _ => 0))
theorem sF_ok : sOk sF := ⟨by decide, by decide, ⟨by decide, by decide, 0, by decide, rfl⟩, fun u hu => (by cases hu), fun s _ => ⟨(by decide : (0 : Nat) ≤ 40), (by decide : (-1 : Int) ≤ (-1 : Int32).toInt), (by decide : (-1 : Int32).toInt ≤ 2)⟩⟩
theorem sF_c : cOk sF := ⟨fun d f hd _ => absurd hd (Nat.not_lt_zero _), fun u hu => (by cases hu)⟩
theorem rr_first {M : MM} (h7 : M 0 7 = 0) (h4 : M 0 4 = 0) (h12 : M 0 12 = 0) (h3 : M 0 3 = 1) (h33 : M 0 33 = -1) (h6 : M 0 6 = 0) (h2 : M 2 0 = 48) (h1 : ∀ k, k < 48 → M 1 k = frR k) (hs : ∀ s, s < 4 → M 12 s = 0) : RR sF M := by
  refine ⟨sF_ok, ⟨by decide, h7, h4, h12, fun d hd => absurd hd (Nat.not_lt_zero _)⟩, h3, ⟨fun _ => h33, fun u hu => (by cases hu)⟩, fun q hq => ?_, ⟨h6, fun k hk => absurd hk (Nat.not_lt_zero _)⟩, fun s hs' => ⟨hs s hs', fun hn => absurd rfl hn⟩⟩
  have hq0 : q = 0 := by have : q < 1 := hq; omega
  subst hq0
  refine ⟨48, frR, by decide, h2, fun k hk => ⟨(by rw [Nat.mul_zero, Nat.zero_add]; exact h1 k hk), (by decide +kernel : ∀ k, k < 48 → 0 ≤ (frR k).toInt) k hk⟩, fr_rdR, fun p hp => fr_tx p hp⟩
theorem rc_first {M : MM} (h0 : M 7 0 = 0) (h1 : M 7 1 = 0) (h2 : M 7 2 = 0) (h8 : M 0 8 = 1) (h9 : M 0 9 = 0) (hR : RulC M 0 (pTx frB 46)) (h5 : M 5 2 = 0) (hs : ∀ s, s < 4 → M (54 + 2 * s) 1 = -1) (hB : ∀ j, j < 12 → M (62 + 3 * j) 3 = 0) : RC sF M := by
  refine ⟨sF_ok, ⟨by decide, h0, h1, h2, fun d hd => absurd hd (Nat.not_lt_zero _)⟩, h8, h9, fun u hu => (by cases hu), fun q hq => ?_, ⟨h5, fun k hk => absurd hk (Nat.not_lt_zero _)⟩, fun s hs' => ⟨hs s hs', fun hn => absurd rfl hn⟩, fun j hj => ⟨fun _ => false, (hB j hj).trans (by decide)⟩⟩
  have hq0 : q = 0 := by have : q < 1 := hq; omega
  subst hq0
  exact hR
