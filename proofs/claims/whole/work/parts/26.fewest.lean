/-! fewest: what the class tries is what the reference tries, the hopeless left out -/
theorem vCp_o {v : WV} {a b : Nat} {Ev : (Nat → Int32) → Int32} : ∀ n d f, d ≠ b → vC (vCp v a b Ev n).1 d f = vC v d f ∧ vT (vCp v a b Ev n).1 d f = vT v d f := by
  intro n
  induction n with
  | zero => intro d f _; exact ⟨rfl, rfl⟩
  | succ n ih =>
    intro d f h
    rw [vCp]
    split
    · show vC (vCpD _ a b n) d f = _ ∧ vT (vCpD _ a b n) d f = _
      unfold vCpD
      rw [vC_set, vT_set, if_neg (fun e => h e.1), if_neg (fun e => h e.1)]
      exact ih d f h
    · exact ih d f h
theorem vCp_new {v : WV} {a b : Nat} {Ev : (Nat → Int32) → Int32} (hab : a ≠ b) : ∀ n f, vHas (vCp v a b Ev n).1 b f = true → vHas v b f = true ∨ vHas v a f = true := by
  intro n
  induction n with
  | zero => intro f h; exact Or.inl h
  | succ n ih =>
    intro f h
    rw [vCp] at h
    split at h
    · rename_i hc
      by_cases g : f = n
      · subst g
        right
        unfold vCpC at hc
        rw [Bool.and_eq_true] at hc
        have h1 := hc.1
        unfold vHas at h1 ⊢
        rwa [(vCp_o f a f hab).1] at h1
      · apply ih f
        have h2 : vHas (vCpD (vCp v a b Ev n).1 a b n) b f = true := h
        unfold vCpD at h2
        rwa [vHas_set, if_neg (fun e => g e.2)] at h2
    · exact ih f h
theorem cnt_mono {p q : Nat → Bool} : ∀ n, (∀ d, d < n → q d = true → p d = true) → cnt q n ≤ cnt p n := by
  intro n
  induction n with
  | zero => intro _; exact Nat.le_refl _
  | succ n ih =>
    intro h
    have h1 := ih fun d hd => h d (by omega)
    have h2 := h n (by omega)
    rw [cnt_S, cnt_S]
    cases hq : q n with
    | false => simp; omega
    | true => rw [h2 hq]; simp; omega
theorem cnt_one {p q : Nat → Bool} {b : Nat} (h : ∀ d, d ≠ b → q d = true → p d = true) : ∀ n, cnt q n ≤ cnt p n + 1 := by
  intro n
  induction n with
  | zero => exact Nat.zero_le _
  | succ n ih =>
    rw [cnt_S, cnt_S]
    by_cases g : n = b
    · have h1 := cnt_mono (p := p) (q := q) n fun d hd => h d (by omega)
      split <;> split <;> omega
    · have h2 := h n g
      cases hq : q n with
      | false => simp; omega
      | true => rw [h2 hq]; simp; omega
theorem vCp_rd {v : WV} {a b : Nat} {Ev : (Nat → Int32) → Int32} (n d : Nat) : vRd (vCp v a b Ev n).1 d = vRd v d := by
  obtain ⟨h1, h2, h3, h4, h5, h6⟩ := vCp_n (v := v) (a := a) (b := b) (Ev := Ev) n
  unfold vRd
  rw [h2, h4, h5, h6]
theorem sCp_rd (σ : SV) (v : WV) (a b d : Nat) : vRd (sCp σ v a b).1 d = vRd v d := by
  rw [← sCp_eq]
  exact vCp_rd 8 d
theorem cp_cnt (σ : SV) (v : WV) {a b : Nat} (hab : a ≠ b) (f : Nat) : cnt (vOn (sCp σ v a b).1 f) (vN (sCp σ v a b).1) ≤ cnt (vOn v f) (vN v) + 1 ∧ (¬ (vHas v a f = true ∧ vHas v b f = false) → cnt (vOn (sCp σ v a b).1 f) (vN (sCp σ v a b).1) ≤ cnt (vOn v f) (vN v)) := by
  rw [← sCp_eq, (vCp_n 8).1]
  have h1 : ∀ d, d ≠ b → vOn (vCp v a b (sT σ (vR (sV σ)) 0) 8).1 f d = true → vOn v f d = true := by
    intro d hd
    unfold vOn vHas
    rw [vCp_rd, (vCp_o 8 d f hd).1]
    exact id
  refine ⟨cnt_one h1 _, fun hn => cnt_mono _ fun d _ hq => ?_⟩
  by_cases g : d = b
  · subst g
    unfold vOn at hq ⊢
    rw [Bool.and_eq_true, vCp_rd] at hq
    rw [Bool.and_eq_true]
    refine ⟨?_, hq.2⟩
    rcases vCp_new hab 8 f hq.1 with h | h
    · exact h
    · cases hb : vHas v d f with
      | true => rfl
      | false => exact absurd ⟨h, hb⟩ hn
  · exact h1 d g hq
/-- of the needed those that aren't safe -/
def ugX (v : WV) (k w : Int32) : Int32 := w &&& (vSafe v k ^^^ (-1))
theorem ug_bt {v : WV} {k w : Int32} {i : Nat} (hi : i < 32) : bt (ugX v k w) i = (bt w i && !(decide (i < 8) && decide (k ≤ nI (cnt (vOn v i) (vN v))))) := by
  unfold ugX vSafe
  rw [b_and, b_xor, b_m1 i hi, bt_mk _ 8 (by decide) i hi, Bool.xor_true]
theorem ug_0 {v : WV} {k w : Int32} : ugX v k w = 0 ↔ ∀ i, i < 32 → bt w i = true → (i < 8 ∧ k ≤ nI (cnt (vOn v i) (vN v))) := by
  constructor
  · intro h i hi hb
    have h1 := ug_bt (v := v) (k := k) (w := w) hi
    rw [h, b_0, hb, Bool.true_and] at h1
    have h2 : (decide (i < 8) && decide (k ≤ nI (cnt (vOn v i) (vN v)))) = true := by
      cases hx : (decide (i < 8) && decide (k ≤ nI (cnt (vOn v i) (vN v)))) with
      | true => rfl
      | false => rw [hx] at h1; cases h1
    rw [Bool.and_eq_true] at h2
    exact ⟨of_decide_eq_true h2.1, of_decide_eq_true h2.2⟩
  · intro h
    apply b_ext
    intro i hi
    rw [ug_bt hi, b_0]
    cases hb : bt w i with
    | false => rfl
    | true =>
      obtain ⟨h1, h2⟩ := h i hi hb
      rw [decide_eq_true h1, decide_eq_true h2]
      rfl
/-- as the reference tries -/
def mkS (σ : SV) (k w : Int32) : Nat → WV → Bool
  | 0, v => decide (ugX v k w = 0)
  | l + 1, v => decide (ugX v k w = 0) || anyN (fun a => anyN (fun b => !decide (a = b) && (vRd v a && vRd v b) && decide (0 < (sCp σ v a b).2) && mkS σ k w l (sCp σ v a b).1) (vN v)) (vN v)
def brX (v : WV) (u : Int32) (a b : Nat) : Bool := decide ((u &&& ((mk (vHas v a) 8 &&& (mk (vHas v b) 8 ^^^ (-1))) ^^^ (-1))) = 0) && (vRd v a && vRd v b)
/-- as the class tries -/
def csX (σ : SV) (k w : Int32) : Nat → WV → Bool
  | 0, v => decide (ugX v k w = 0)
  | l + 1, v => decide (ugX v k w = 0) || (decide (ugX v (k - nI (l + 1)) w = 0) && anyN (fun a => anyN (fun b => !decide (a = b) && (brX v (ugX v (k - nI (l + 1) + nI 1) w) a b && (decide (0 < (sCp σ v a b).2) && csX σ k w l (sCp σ v a b).1))) (vN v)) (vN v))
theorem cnt6 {v : WV} (hv : vN v ≤ 6) (f : Nat) : cnt (vOn v f) (vN v) ≤ 6 := Nat.le_trans (cnt_le _ _) hv
theorem mkS_low {σ : SV} {K : Nat} {w : Int32} (hK : K ≤ 6) : ∀ l v, vN v ≤ 6 → mkS σ (nI K) w l v = true → ∀ i, i < 32 → bt w i = true → i < 8 ∧ K ≤ cnt (vOn v i) (vN v) + l := by
  intro l
  induction l with
  | zero =>
    intro v hv h i hi hb
    obtain ⟨h1, h2⟩ := ug_0.mp (of_decide_eq_true h) i hi hb
    have h6 := cnt6 hv i
    exact ⟨h1, (nI_leI (by omega) (by omega)).mp h2⟩
  | succ l ih =>
    intro v hv h i hi hb
    rw [mkS, Bool.or_eq_true] at h
    rcases h with h | h
    · obtain ⟨h1, h2⟩ := ug_0.mp (of_decide_eq_true h) i hi hb
      have h6 := cnt6 hv i
      exact ⟨h1, Nat.le_trans ((nI_leI (by omega) (by omega)).mp h2) (by omega)⟩
    · obtain ⟨a, ha, h2⟩ := anyN_of h
      obtain ⟨b, hb2, h3⟩ := anyN_of h2
      rw [Bool.and_eq_true, Bool.and_eq_true, Bool.and_eq_true] at h3
      obtain ⟨⟨⟨hab, hr⟩, hc⟩, hm⟩ := h3
      have hab2 : a ≠ b := fun e => by rw [decide_eq_true e] at hab; cases hab
      obtain ⟨g1, g2⟩ := ih _ (by rw [(sCp_rest σ v a b).1]; exact hv) hm i hi hb
      have := (cp_cnt σ v hab2 i).1
      exact ⟨g1, by omega⟩
theorem csK : ∀ K, K < 7 → ∀ l, l < 4 → (nI K - nI (l + 1)).toInt = (K : Int) - (l + 1) ∧ (nI K - nI (l + 1) + nI 1).toInt = (K : Int) - l := by decide +kernel
theorem csX_eq {σ : SV} {K : Nat} {w : Int32} (hK : K ≤ 6) : ∀ l, l ≤ 3 → ∀ v, vN v ≤ 6 → csX σ (nI K) w l v = mkS σ (nI K) w l v := by
  intro l
  induction l with
  | zero => intro _ v _; rfl
  | succ l ih =>
    intro hl v hv
    have hv' : ∀ a b, vN (sCp σ v a b).1 ≤ 6 := fun a b => by rw [(sCp_rest σ v a b).1]; exact hv
    obtain ⟨k1, k2⟩ := csK K (by omega) l (by omega)
    rw [Bool.eq_iff_iff]
    constructor
    · intro h
      rw [csX, Bool.or_eq_true] at h
      rw [mkS, Bool.or_eq_true]
      rcases h with h | h
      · exact Or.inl h
      · right
        rw [Bool.and_eq_true] at h
        obtain ⟨a, ha, h2⟩ := anyN_of h.2
        obtain ⟨b, hb, h3⟩ := anyN_of h2
        refine anyN_t ha (anyN_t hb ?_)
        rw [Bool.and_eq_true, Bool.and_eq_true, Bool.and_eq_true] at h3
        obtain ⟨hab, hbr, hc, hm⟩ := h3
        unfold brX at hbr
        rw [Bool.and_eq_true] at hbr
        rw [ih (by omega) _ (hv' a b)] at hm
        rw [hab, hbr.2, hc, hm]
        rfl
    · intro h
      have low := mkS_low hK (l + 1) v hv h
      rw [mkS, Bool.or_eq_true] at h
      rw [csX, Bool.or_eq_true]
      rcases h with h | h
      · exact Or.inl h
      · right
        obtain ⟨a, ha, h2⟩ := anyN_of h
        obtain ⟨b, hb, h3⟩ := anyN_of h2
        rw [Bool.and_eq_true, Bool.and_eq_true, Bool.and_eq_true] at h3
        obtain ⟨⟨⟨hab, hr⟩, hc⟩, hm⟩ := h3
        have hab2 : a ≠ b := fun e => by rw [decide_eq_true e] at hab; cases hab
        have low2 := mkS_low hK l _ (hv' a b) hm
        rw [Bool.and_eq_true]
        refine ⟨decide_eq_true (ug_0.mpr fun i hi hw => ⟨(low i hi hw).1, ?_⟩), anyN_t ha (anyN_t hb ?_)⟩
        · have h6 := cnt6 hv i
          have := (low i hi hw).2
          rw [i_le, k1, nI_toInt (by omega)]
          omega
        · have hbr : brX v (ugX v (nI K - nI (l + 1) + nI 1) w) a b = true := by
            unfold brX
            rw [hr, Bool.and_true]
            refine decide_eq_true (b_ext fun i hi => ?_)
            rw [b_0, b_and, b_xor, b_and, b_xor, b_m1 i hi, bt_mk _ 8 (by decide) i hi, bt_mk _ 8 (by decide) i hi]
            cases hu : bt (ugX v (nI K - nI (l + 1) + nI 1) w) i with
            | false => rfl
            | true =>
              rw [ug_bt hi] at hu
              rw [Bool.and_eq_true] at hu
              obtain ⟨u1, u2⟩ := hu
              obtain ⟨l1, l2⟩ := low2 i hi u1
              have h6 := cnt6 hv i
              have hlt : cnt (vOn v i) (vN v) < cnt (vOn (sCp σ v a b).1 i) (vN (sCp σ v a b).1) := by
                rw [decide_eq_true l1, Bool.true_and] at u2
                have u3 : ¬ (nI K - nI (l + 1) + nI 1 ≤ nI (cnt (vOn v i) (vN v))) := fun e => by rw [decide_eq_true e] at u2; cases u2
                rw [i_le, k2, nI_toInt (by omega)] at u3
                omega
              have hh : vHas v a i = true ∧ vHas v b i = false := by
                refine Decidable.byContradiction fun hn => ?_
                have := (cp_cnt σ v hab2 i).2 hn
                omega
              rw [hh.1, hh.2, decide_eq_true l1]
              rfl
          rw [hab, hbr, hc, ih (by omega) _ (hv' a b), hm]
          rfl
theorem vOr_safe {v : WV} (hv : vN v ≤ 6) : vOr v (bt (mk (vRd v) (vN v))) = vSafe v 1 := by
  unfold vOr vSafe
  refine mk_congr fun f _ => ?_
  have h6 := cnt6 hv f
  have e : anyN (fun d => bt (mk (vRd v) (vN v)) d && vHas v d f) (vN v) = anyN (vOn v f) (vN v) := anyN_congr fun d hd => by
    rw [bt_mk _ _ (by omega) d (by omega)]; unfold vOn; simp [hd, Bool.and_comm]
  rw [e]
  have key : ∀ n, anyN (vOn v f) n = decide (1 ≤ cnt (vOn v f) n) := by
    intro n
    induction n with
    | zero => rfl
    | succ n ih =>
      rw [anyN, ih, cnt_S]
      cases vOn v f n with
      | true => simp
      | false => simp
  rw [key]
  by_cases g : 1 ≤ cnt (vOn v f) (vN v)
  · rw [decide_eq_true g, decide_eq_true]
    rw [i_le, nI_toInt (by omega), li_1]
    omega
  · rw [decide_eq_false g, decide_eq_false]
    rw [i_le, nI_toInt (by omega), li_1]
    omega
/-- how many copies, from n on -/
def fwF (σ : SV) (k w : Int32) (n : Nat) : Nat → Int32
  | 0 => -1
  | j + 1 => if mkS σ k w n (sV σ) = true then nI n else fwF σ k w (n + 1) j
def a_fewest (σ : SV) (k : Int32) : Int32 :=
  if ¬ (1 ≤ k.toInt ∧ k.toInt ≤ 6) then -2 else fwF σ k (vSafe (sV σ) 1) 0 4
/-! the class's rows of it -/
theorem csX_0 {σ : SV} {k w : Int32} {u : WV} (h : ugX u k w = 0) : ∀ l, csX σ k w l u = true := by
  intro l
  cases l with
  | zero => exact decide_eq_true h
  | succ l => rw [csX, decide_eq_true h]; rfl
def csP (σ : SV) (k w : Int32) (l : Nat) (u : WV) (a b : Nat) : Bool := !decide (a = b) && (brX u (ugX u (k - nI (l + 1) + nI 1) w) a b && (decide (0 < (sCp σ u a b).2) && csX σ k w l (sCp σ u a b).1))
theorem csX_S {σ : SV} {k w : Int32} {u : WV} {l : Nat} (h : ¬ ugX u k w = 0) (h2 : ugX u (k - nI (l + 1)) w = 0) : csX σ k w (l + 1) u = anyN (fun a => anyN (csP σ k w l u a) (vN u)) (vN u) := by
  rw [csX, decide_eq_false h, decide_eq_true h2]
  rfl
theorem csX_F {σ : SV} {k w : Int32} {u : WV} {l : Nat} (h : ¬ ugX u k w = 0) (h2 : ¬ ugX u (k - nI (l + 1)) w = 0) : csX σ k w (l + 1) u = false := by
  rw [csX, decide_eq_false h, decide_eq_false h2]
  rfl
/-- one world is another but for a disk's files -/
def wBut (u' u : WV) (b : Nat) : Prop := vN u' = vN u ∧ vD u' = vD u ∧ vR u' = vR u ∧ vK u' = vK u ∧ vU u' = vU u ∧ vS u' = vS u ∧ ∀ d f, d ≠ b → vC u' d f = vC u d f ∧ vT u' d f = vT u d f
theorem wBut_cp (σ : SV) (u : WV) (a b : Nat) : wBut (sCp σ u a b).1 u b := by
  rw [← sCp_eq]
  obtain ⟨h1, h2, h3, h4, h5, h6⟩ := vCp_n (v := u) (a := a) (b := b) (Ev := sT σ (vR (sV σ)) 0) 8
  exact ⟨h1, h2, h3, h4, h5, h6, fun d f hd => vCp_o 8 d f hd⟩
theorem dBec_o (M : MM) (j j2 : Nat) {x y : Nat} (h : x < 62 + 3 * j ∨ 65 + 3 * j ≤ x) : dBec M j j2 x y = M x y := by
  unfold dBec
  rw [if_neg (by omega), if_neg (by omega), if_neg (by omega)]
theorem cs_before {σ : SV} {M : MM} {u : WV} {l b : Nat} (h : RC σ M) (hV : VC 2 u M) : RC σ (dBec M (18 + l) (6 * 2 + b)) ∧ VC 2 u (dBec M (18 + l) (6 * 2 + b)) :=
  ⟨rc_frame h (fun x y hr => dBec_o M _ _ (by unfold rel at hr; omega)), vc_frame hV (fun x y hr => dBec_o M _ _ (by omega))⟩
theorem cs_back {σ : SV} {M M2 : MM} {u u' : WV} {l b : Nat} (hV : VC 2 u M) (hb : b < vN u) (e : wBut u' u b) (hR2 : RC σ M2) (hV2 : VC 2 u' M2) (hO : ∀ x y, 116 + 3 * l ≤ x → M2 x y = dBec M (18 + l) (6 * 2 + b) x y) : RC σ (dBec M2 (6 * 2 + b) (18 + l)) ∧ VC 2 u (dBec M2 (6 * 2 + b) (18 + l)) ∧ ∀ x y, 116 + 3 * (l + 1) ≤ x → dBec M2 (6 * 2 + b) (18 + l) x y = M x y := by
  have h6 := hV.1
  obtain ⟨e1, e2, e3, e4, e5, e6, e7⟩ := e
  refine ⟨rc_frame hR2 (fun x y hr => dBec_o M2 _ _ (by unfold rel at hr; omega)), ⟨h6, ?_, ?_, ?_, fun d hd => ?_⟩, fun x y hx => ?_⟩
  · rw [dBec_o M2 _ _ (by omega), hV2.2.1, e2]
  · rw [dBec_o M2 _ _ (by omega), hV2.2.2.1, e3]
  · rw [dBec_o M2 _ _ (by omega), hV2.2.2.2.1, e1]
  · by_cases g : d = b
    · subst g
      have q0 : ∀ y, y < 4 → dBec M2 (6 * 2 + d) (18 + l) (62 + 3 * (6 * 2 + d)) y = M (62 + 3 * (6 * 2 + d)) y := fun y hy => by
        unfold dBec
        rw [if_pos ⟨rfl, hy⟩, hO _ _ (by omega)]
        unfold dBec
        rw [if_pos ⟨rfl, hy⟩]
      have q1 : ∀ y, y < 8 → dBec M2 (6 * 2 + d) (18 + l) (63 + 3 * (6 * 2 + d)) y = M (63 + 3 * (6 * 2 + d)) y := fun y hy => by
        unfold dBec
        rw [if_neg (by omega), if_pos ⟨rfl, hy⟩, hO _ _ (by omega)]
        unfold dBec
        rw [if_neg (by omega), if_pos ⟨rfl, hy⟩]
      have q2 : ∀ y, y < 8 → dBec M2 (6 * 2 + d) (18 + l) (64 + 3 * (6 * 2 + d)) y = M (64 + 3 * (6 * 2 + d)) y := fun y hy => by
        unfold dBec
        rw [if_neg (by omega), if_neg (by omega), if_pos ⟨rfl, hy⟩, hO _ _ (by omega)]
        unfold dBec
        rw [if_neg (by omega), if_neg (by omega), if_pos ⟨rfl, hy⟩]
      obtain ⟨a1, a2, a3, a4, a5, a6⟩ := hV.2.2.2.2 d hd
      refine ⟨(q0 0 (by decide)).trans a1, a2, (q0 1 (by decide)).trans a3, (q0 2 (by decide)).trans a4, (q0 3 (by decide)).trans a5, fun f hf => ?_⟩
      obtain ⟨b1, b2, b3⟩ := a6 f hf
      exact ⟨(q1 f hf).trans b1, (q2 f hf).trans b2, b3⟩
    · have q : ∀ x y, (62 + 3 * (6 * 2 + d) ≤ x ∧ x < 65 + 3 * (6 * 2 + d)) → dBec M2 (6 * 2 + b) (18 + l) x y = M2 x y := fun x y hx => dBec_o M2 _ _ (by omega)
      obtain ⟨a1, a2, a3, a4, a5, a6⟩ := hV2.2.2.2.2 d (by rw [e1]; exact hd)
      have hh : vHas u' d = vHas u d := funext fun f => by unfold vHas; rw [(e7 d f g).1]
      rw [e4] at a1 a2
      rw [e5] at a3
      rw [e6] at a4
      rw [hh] at a5
      refine ⟨(q _ _ (by omega)).trans a1, a2, (q _ _ (by omega)).trans a3, (q _ _ (by omega)).trans a4, (q _ _ (by omega)).trans a5, fun f hf => ?_⟩
      obtain ⟨b1, b2, b3⟩ := a6 f hf
      rw [(e7 d f g).1] at b1 b3
      rw [(e7 d f g).2] at b2
      exact ⟨(q _ _ (by omega)).trans b1, (q _ _ (by omega)).trans b2, b3⟩
  · rw [dBec_o M2 _ _ (by omega), hO _ _ (by omega), dBec_o M _ _ (by omega)]
