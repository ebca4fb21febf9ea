/-! THE MATHEMATICAL VALUE: a world of disks as functions; what both sides say of it -/
abbrev WV : Type := Int32 × Nat × Nat × (Nat → Nat) × (Nat → Int32) × (Nat → Int32) × (Nat → Nat → Int32) × (Nat → Nat → Int32)
abbrev vD (v : WV) : Int32 := v.1
abbrev vR (v : WV) : Nat := v.2.1
abbrev vN (v : WV) : Nat := v.2.2.1
abbrev vK (v : WV) : Nat → Nat := v.2.2.2.1
abbrev vU (v : WV) : Nat → Int32 := v.2.2.2.2.1
abbrev vS (v : WV) : Nat → Int32 := v.2.2.2.2.2.1
abbrev vC (v : WV) : Nat → Nat → Int32 := v.2.2.2.2.2.2.1
abbrev vT (v : WV) : Nat → Nat → Int32 := v.2.2.2.2.2.2.2
def vRd (v : WV) (d : Nat) : Bool := kReads (vK v d) (vD v - vS v d) (vD v) (vU v d)
def vHas (v : WV) (d f : Nat) : Bool := !decide (vC v d f = -1)
def vOn (v : WV) (f d : Nat) : Bool := vHas v d f && vRd v d
def vCn (v : WV) (d : Nat) : Nat := cnt (vHas v d) 8
def vTi (v : WV) (d f : Nat) : Bool := vHas v d f || decide (nI (vCn v d) < kRoom (vK v d) (vU v d))
def vCpC (v : WV) (a b f : Nat) (Ev : (Nat → Int32) → Int32) : Bool := vHas v a f && (vTi v b f && decide (Ev (nm6 (vT v b f) (vT v a f) (b2i (decide (vC v a f = vC v b f))) (vU v b) (nI f) (vD v)) ≠ 0))
/-- what is there of a file on a disk becomes c, with the stamp s -/
def vSet (v : WV) (d f : Nat) (c s : Int32) : WV := (vD v, vR v, vN v, vK v, vU v, vS v, (fun x y => if x = d ∧ y = f then c else vC v x y), (fun x y => if x = d ∧ y = f then s else vT v x y))
def vCpD (v : WV) (a b f : Nat) : WV := vSet v b f (kKeeps (vK v b) (vC v a f)) (vT v a f)
def vCp (v : WV) (a b : Nat) (Ev : (Nat → Int32) → Int32) : Nat → WV × Nat
  | 0 => (v, 0)
  | f + 1 => if vCpC (vCp v a b Ev f).1 a b f Ev then (vCpD (vCp v a b Ev f).1 a b f, (vCp v a b Ev f).2 + 1) else vCp v a b Ev f
/-- files (bits) of which some disk among x has something -/
def vOr (v : WV) (p : Nat → Bool) : Int32 := mk (fun f => anyN (fun d => p d && vHas v d f) (vN v)) 8
def vSafe (v : WV) (k : Int32) : Int32 := mk (fun f => decide (k ≤ nI (cnt (vOn v f) (vN v)))) 8
def vNh (v : WV) (f : Nat) : Nat → Option Nat
  | 0 => none
  | d + 1 => if vOn v f d && (match vNh v f d with | none => true | some e => decide (vT v e f < vT v d f)) then some d else vNh v f d
def vDu (v : WV) (f : Nat) : Bool := anyN (fun d => vOn v f d && anyN (fun e => vOn v f e && !decide (vC v e f = vC v d f)) (vN v)) (vN v)
def vLost (v : WV) : Int32 := mk (fun f => anyN (fun d => vHas v d f) (vN v) && !anyN (vOn v f) (vN v)) 8
def vCc (v : WV) : Nat → Nat
  | 0 => 0
  | d + 1 => vCc v d + vCn v d
/-- world i of the class's memory is v -/
def VC (i : Nat) (v : WV) (X : MM) : Prop := vN v ≤ 6 ∧ X (7 + i) 0 = vD v ∧ X (7 + i) 1 = nI (vR v) ∧ X (7 + i) 2 = nI (vN v) ∧ ∀ d, d < vN v → (X (62 + 3 * (6 * i + d)) 0 = nI (vK v d) ∧ vK v d < 6 ∧ X (62 + 3 * (6 * i + d)) 1 = vU v d ∧ X (62 + 3 * (6 * i + d)) 2 = vS v d ∧ X (62 + 3 * (6 * i + d)) 3 = mk (vHas v d) 8 ∧ ∀ f, f < 8 → (X (63 + 3 * (6 * i + d)) f = vC v d f ∧ X (64 + 3 * (6 * i + d)) f = vT v d f ∧ -1 ≤ (vC v d f).toInt))
section VCL
variable {i : Nat} {v : WV} {X : MM}
theorem vc_wi (h : VC i v X) : WI X i (vN v) := ⟨h.2.2.2.1, h.1, fun d hd => by rw [(h.2.2.2.2 d hd).1, nI_clamp (Nat.lt_trans (h.2.2.2.2 d hd).2.1 (by decide))]; exact (h.2.2.2.2 d hd).2.1⟩
theorem vc_k (h : VC i v X) {d : Nat} (hd : d < vN v) : (X (62 + 3 * (6 * i + d)) 0).toNatClampNeg = vK v d := by rw [(h.2.2.2.2 d hd).1, nI_clamp (Nat.lt_trans (h.2.2.2.2 d hd).2.1 (by decide))]
theorem vc_rd (h : VC i v X) {d : Nat} (hd : d < vN v) : rdM X i d = vRd v d := by
  obtain ⟨h6, h0, h1, h2, hd5⟩ := id h
  obtain ⟨a1, a2, a3, a4, a5, a6⟩ := hd5 d hd
  unfold rdM rdJ vRd
  rw [vc_k h hd, a3, a4, h0]
theorem vc_rds (h : VC i v X) : mk (rdM X i) (vN v) = mk (vRd v) (vN v) := mk_congr fun d hd => vc_rd h hd
theorem vc_held (h : VC i v X) {d f : Nat} (hd : d < vN v) (hf : f < 8) : bt (X (62 + 3 * (6 * i + d)) 3) f = vHas v d f := by
  rw [(h.2.2.2.2 d hd).2.2.2.2.1, bt_mk _ 8 (by decide) f (by omega)]
  simp [hf]
theorem vc_cn (h : VC i v X) {d : Nat} (hd : d < vN v) : jbc (X (62 + 3 * (6 * i + d)) 3) = nI (vCn v d) := by
  rw [(h.2.2.2.2 d hd).2.2.2.2.1]
  exact jbc_mk _
theorem vc_ti (h : VC i v X) {d f : Nat} (hd : d < vN v) (hf : f < 8) : tiJ X (6 * i + d) f = vTi v d f := by
  unfold tiJ vTi
  rw [vc_held h hd hf, vc_cn h hd, vc_k h hd, (h.2.2.2.2 d hd).2.2.1]
theorem vc_ct (h : VC i v X) {d f : Nat} (hd : d < vN v) (hf : f < 8) : X (63 + 3 * (6 * i + d)) f = vC v d f := ((h.2.2.2.2 d hd).2.2.2.2.2 f hf).1
theorem vc_st (h : VC i v X) {d f : Nat} (hd : d < vN v) (hf : f < 8) : X (64 + 3 * (6 * i + d)) f = vT v d f := ((h.2.2.2.2 d hd).2.2.2.2.2 f hf).2.1
theorem vc_orF (h : VC i v X) (x : Int32) : orF X i x (vN v) = vOr v (bt x) := by
  have key : ∀ n, n ≤ vN v → orF X i x n = mk (fun f => anyN (fun d => bt x d && vHas v d f) n) 8 := by
    intro n
    induction n with
    | zero =>
      intro _
      apply b_ext
      intro j hj
      rw [bt_mk _ 8 (by decide) j hj]
      show bt 0 j = _
      rw [b_0]
      simp [anyN]
    | succ n ih =>
      intro hn
      show (if bt x n then _ else _) = _
      rw [ih (by omega)]
      apply b_ext
      intro j hj
      rw [bt_mk _ 8 (by decide) j hj]
      split
      · rename_i hb
        rw [b_or, bt_mk _ 8 (by decide) j hj, (h.2.2.2.2 n (by omega)).2.2.2.2.1, bt_mk _ 8 (by decide) j hj]
        by_cases h8 : j < 8
        · simp [h8, anyN, hb]
        · simp [h8]
      · rename_i hb
        rw [bt_mk _ 8 (by decide) j hj]
        by_cases h8 : j < 8
        · simp [h8, anyN, hb]
        · simp [h8]
  exact key _ (Nat.le_refl _)
theorem vc_ho (h : VC i v X) {f : Nat} (hf : f < 8) : hoM X i (vN v) f = mk (vOn v f) (vN v) := by
  unfold hoM
  rw [(vc_rds h)]
  have h6 := h.1
  have key : ∀ n, n ≤ vN v → hA X i f (mk (vRd v) (vN v)) n = mk (fun d => vRd v d && (vHas v d f || !decide (d < n))) (vN v) := by
    intro n
    induction n with
    | zero =>
      intro _
      show mk (vRd v) (vN v) = _
      exact mk_congr fun d _ => by simp
    | succ n ih =>
      intro hn
      show (if bt (X (62 + 3 * (6 * i + n)) 3) f then _ else _) = _
      rw [ih (by omega), vc_held h (by omega) hf]
      apply b_ext
      intro j hj
      rw [bt_mk _ _ (by omega) j hj]
      split
      · rename_i hb
        rw [bt_mk _ _ (by omega) j hj]
        by_cases g : j = n
        · subst g; simp [hb]
        · have e : (decide (j < n + 1)) = decide (j < n) := by
            by_cases g2 : j < n
            · rw [decide_eq_true g2, decide_eq_true (by omega)]
            · rw [decide_eq_false g2, decide_eq_false (by omega)]
          rw [e]
      · rename_i hb
        rw [bt_without (by omega) hj, bt_mk _ _ (by omega) j hj]
        by_cases g : j = n
        · subst g; simp [hb]
        · have e : (decide (j < n + 1)) = decide (j < n) := by
            by_cases g2 : j < n
            · rw [decide_eq_true g2, decide_eq_true (by omega)]
            · rw [decide_eq_false g2, decide_eq_false (by omega)]
          rw [e]; simp [g]
  rw [key _ (Nat.le_refl _)]
  exact mk_congr fun d hd => by unfold vOn; simp [hd, Bool.and_comm]
theorem vc_safe (h : VC i v X) (k : Int32) : mk (sfM X i (vN v) k) 8 = vSafe v k := by
  refine mk_congr fun f hf => ?_
  unfold sfM
  rw [vc_ho h hf, jbc_le (by have := h.1; omega)]
theorem vc_nh (h : VC i v X) {f : Nat} (hf : f < 8) : ∀ n, n ≤ vN v → nhM X i f (hoM X i (vN v) f) n = vNh v f n := by
  intro n
  have h6 := h.1
  induction n with
  | zero => intro _; rfl
  | succ n ih =>
    intro hn
    rw [nhM, vNh, ih (by omega)]
    have e : nhC X i f (hoM X i (vN v) f) n (vNh v f n) = (vOn v f n && (match vNh v f n with | none => true | some e => decide (vT v e f < vT v n f))) := by
      unfold nhC
      rw [vc_ho h hf, bt_mk _ _ (by omega) n (by omega), decide_eq_true (show n < vN v by omega), Bool.true_and]
      cases ho : vNh v f n with
      | none => rfl
      | some e =>
        have hlt : e < n := nhM_lt ((ih (by omega)).trans ho)
        show (_ && decide _) = (_ && decide _)
        rw [vc_st h (by omega) hf, vc_st h (by omega) hf]
    rw [e]
theorem vc_cc (h : VC i v X) : ∀ n, n ≤ vN v → ccM X i n = nI (vCc v n) := by
  intro n
  induction n with
  | zero => intro _; rfl
  | succ n ih =>
    intro hn
    rw [ccM, vCc, ih (by omega), vc_cn h (by omega), nI_add]
theorem vc_au (h : VC i v X) {f : Nat} (hf : f < 8) : duM X i (vN v) f = vDu v f := by
  have h6 := h.1
  have hb : ∀ d, d < vN v → bt (hoM X i (vN v) f) d = vOn v f d := fun d hd => by
    rw [vc_ho h hf, bt_mk _ _ (by omega) d (by omega)]; simp [hd]
  have hne : ∀ d, d < vN v → vOn v f d = true → vC v d f ≠ -1 := fun d _ g => by
    unfold vOn vHas at g
    simp at g
    exact g.1
  -- the first one's content
  have key : ∀ n, n ≤ vN v → ((auF X i f (hoM X i (vN v) f) n = -1 ∧ ∀ d, d < n → vOn v f d = false) ∨ ∃ e, e < n ∧ vOn v f e = true ∧ auF X i f (hoM X i (vN v) f) n = vC v e f) := by
    intro n
    induction n with
    | zero => intro _; exact Or.inl ⟨rfl, fun d hd => absurd hd (Nat.not_lt_zero _)⟩
    | succ n ih =>
      intro hn
      rw [auF, hb n (by omega), vc_ct h (by omega) hf]
      rcases ih (by omega) with ⟨e1, e2⟩ | ⟨e, e1, e2, e3⟩
      · cases hv : vOn v f n with
        | false => exact Or.inl ⟨by simp [e1], fun d hd => by rcases Nat.lt_succ_iff_lt_or_eq.mp hd with g | rfl; exact e2 d g; exact hv⟩
        | true => exact Or.inr ⟨n, by omega, hv, by simp [e1]⟩
      · refine Or.inr ⟨e, by omega, e2, ?_⟩
        rw [e3]
        have := hne e (by omega) e2
        simp [this]
  unfold duM
  cases hv : vDu v f with
  | true =>
    obtain ⟨d, hd, g⟩ := anyN_of hv
    rw [Bool.and_eq_true] at g
    obtain ⟨e, he, g2⟩ := anyN_of g.2
    rw [Bool.and_eq_true] at g2
    have hde : vC v e f ≠ vC v d f := by simpa using g2.2
    -- the later one, or one that differs from the first
    have main : ∀ x, x < vN v → vOn v f x = true → (∀ z, z < vN v → auX X i f (hoM X i (vN v) f) z = false) → ∀ y, y < vN v → vOn v f y = true → vC v x f = vC v y f := by
      intro x hx gx hz y hy gy
      have one : ∀ x, x < vN v → vOn v f x = true → ∀ c, (∀ e, e < x → vOn v f e = true → vC v e f = c) → (∃ e, e < x ∧ vOn v f e = true) → vC v x f = c := by
        intro x hx gx c hc hex
        have hz2 := hz x hx
        unfold auX at hz2
        rw [hb x hx, gx, vc_ct h hx hf] at hz2
        rcases key x (by omega) with ⟨e1, e2⟩ | ⟨e, e1, e2, e3⟩
        · obtain ⟨e, he, ge⟩ := hex
          rw [e2 e he] at ge; cases ge
        · rw [e3] at hz2
          have hn1 := hne e (by omega) e2
          simp [hn1] at hz2
          rw [← hz2]; exact hc e e1 e2
      -- all on ones agree with each earlier one, by strong induction
      have all : ∀ n, n ≤ vN v → ∀ a b, a < n → b < n → vOn v f a = true → vOn v f b = true → vC v a f = vC v b f := by
        intro n
        induction n with
        | zero => intro _ a b ha; omega
        | succ n ih =>
          intro hn a b ha hb2 ga gb
          by_cases h1 : a = n
          · by_cases h2 : b = n
            · rw [h1, h2]
            · subst h1
              exact one a (by omega) ga _ (fun e he ge => ih (by omega) e b he (by omega) ge gb) ⟨b, by omega, gb⟩
          · by_cases h2 : b = n
            · subst h2
              exact (one b (by omega) gb _ (fun e he ge => ih (by omega) e a he (by omega) ge ga) ⟨a, by omega, ga⟩).symm
            · exact ih (by omega) a b (by omega) (by omega) ga gb
      exact all _ (Nat.le_refl _) x y hx hy gx gy
    cases hc : anyN (auX X i f (hoM X i (vN v) f)) (vN v) with
    | true => rfl
    | false => exact absurd (main e he g2.1 (fun z hz => anyN_f hc hz) d hd g.1) hde
  | false =>
    cases hc : anyN (auX X i f (hoM X i (vN v) f)) (vN v) with
    | false => rfl
    | true =>
      obtain ⟨d, hd, g⟩ := anyN_of hc
      unfold auX at g
      rw [hb d hd, vc_ct h hd hf] at g
      rcases key d (by omega) with ⟨e1, e2⟩ | ⟨e, e1, e2, e3⟩
      · rw [e1] at g; simp at g
      · rw [e3] at g
        simp at g
        have : vDu v f = true := anyN_t hd (by
          rw [g.1.1, Bool.true_and]
          exact anyN_t (d := e) (by omega) (by rw [e2]; simpa using g.2))
        rw [hv] at this; cases this
theorem vc_lost (h : VC i v X) : (orF X i (mk (rdM X i) (vN v) ^^^ (-1)) (vN v) &&& (orF X i (mk (rdM X i) (vN v)) (vN v) ^^^ (-1))) = vLost v := by
  have h6 := h.1
  rw [vc_orF h, vc_orF h, (vc_rds h)]
  apply b_ext
  intro j hj
  unfold vOr vLost
  rw [b_and, b_xor, b_m1 j hj, bt_mk _ 8 (by decide) j hj, bt_mk _ 8 (by decide) j hj, bt_mk _ 8 (by decide) j hj]
  by_cases h8 : j < 8
  · rw [decide_eq_true h8, Bool.true_and, Bool.true_and, Bool.true_and]
    have e1 : anyN (fun d => bt (mk (vRd v) (vN v)) d && vHas v d j) (vN v) = anyN (vOn v j) (vN v) := anyN_congr fun d hd => by
      rw [bt_mk _ _ (by omega) d (by omega)]; unfold vOn; simp [hd, Bool.and_comm]
    have e2 : anyN (fun d => bt (mk (vRd v) (vN v) ^^^ (-1)) d && vHas v d j) (vN v) = anyN (fun d => !vRd v d && vHas v d j) (vN v) := anyN_congr fun d hd => by
      rw [b_xor, b_m1 d (by omega), bt_mk _ _ (by omega) d (by omega)]; simp [hd]
    rw [e1, e2, Bool.xor_true]
    cases ho : anyN (vOn v j) (vN v) with
    | true => simp
    | false =>
      simp only [Bool.not_false, Bool.and_true]
      refine anyN_congr fun d hd => ?_
      have g := anyN_f ho hd
      unfold vOn at g
      cases a : vHas v d j <;> cases b : vRd v d <;> simp_all
  · simp [h8]
end VCL
