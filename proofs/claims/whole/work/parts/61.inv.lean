/-! contents keep to 999, whatever is called -/
def cB (v : WV) : Prop := ∀ d f, d < vN v → f < 8 → -1 ≤ (vC v d f).toInt ∧ (vC v d f).toInt ≤ 999
def cOk (σ : SV) : Prop := cB (sV σ) ∧ ∀ u, sK σ = some u → cB u
theorem cok_hcU {σ : SV} (h : cOk σ) : hcU σ := fun d f hd hf => (h.1 d f hd hf).2
theorem keeps_up {k : Nat} {c : Int32} (h : 0 ≤ c.toInt) (h9 : c.toInt ≤ 999) : (kKeeps k c).toInt ≤ 999 := by
  have hc : ¬ c < 0 := by rw [i_lt]; simpa using h
  obtain ⟨n, hn, rfl⟩ := nI_of hc
  rw [nI_toInt hn] at h9
  unfold kKeeps
  split
  · split
    · decide
    · rw [nI_toInt hn]; exact h9
  · have e : nI n - nI n / 10 * 10 = nI (n % 10) := pk_rem (d := 10) hn (by decide) (by decide)
    rw [e, pk_sub (Nat.mod_le _ _), nI_toInt (by omega)]
    omega
  · rw [nI_toInt hn]; exact h9
theorem cB_set {v : WV} (h : cB v) {d f : Nat} {c s : Int32} (h1 : -1 ≤ c.toInt) (h2 : c.toInt ≤ 999) : cB (vSet v d f c s) := by
  intro x y hx hy
  rw [vC_set]
  split
  · exact ⟨h1, h2⟩
  · exact h x y hx hy
theorem cB_cp {v : WV} (h : cB v) {a b : Nat} (ha : a < vN v) (Ev : (Nat → Int32) → Int32) : ∀ n, n ≤ 8 → cB (vCp v a b Ev n).1 := by
  intro n
  induction n with
  | zero => intro _; exact h
  | succ n ih =>
    intro hn
    have i := ih (by omega)
    rw [vCp]
    split
    · rename_i g
      have hh : vHas (vCp v a b Ev n).1 a n = true := by
        unfold vCpC at g
        rw [Bool.and_eq_true] at g
        exact g.1
      have hb := i a n (by rw [(vCp_n n).1]; exact ha) (by omega)
      have h0 : 0 ≤ (vC (vCp v a b Ev n).1 a n).toInt := by
        have h3 : (vC (vCp v a b Ev n).1 a n).toInt ≠ -1 := fun e => by
          unfold vHas at hh
          rw [decide_eq_true (Int32.toInt_inj.mp (e.trans rfl) : vC (vCp v a b Ev n).1 a n = -1)] at hh
          cases hh
        omega
      exact cB_set i (Int.le_trans (by decide) (keeps_nn h0)) (keeps_up h0 hb.2)
    · exact i
theorem cok_V {σ : SV} (h : cOk σ) {v : WV} (hv : cB v) : cOk (setV σ v) := ⟨hv, h.2⟩
theorem cok_set {σ : SV} (h : cOk σ) (w o x : Int32) : cOk (o_set σ w o x).1 := by
  unfold o_set
  split
  · exact h
  · split
    · exact cok_V h h.1
    · split
      · exact cok_V h h.1
      · exact cok_V h h.1
theorem cok_disk {σ : SV} (h : cOk σ) (k x : Int32) : cOk (o_disk σ k x).1 := by
  unfold o_disk
  split
  · exact h
  · split
    · exact h
    · refine cok_V h (fun d f hd hf => ?_)
      have hd' : d < vN (sV σ) + 1 := hd
      show -1 ≤ (if d = vN (sV σ) then (-1 : Int32) else vC (sV σ) d f).toInt ∧ (if d = vN (sV σ) then (-1 : Int32) else vC (sV σ) d f).toInt ≤ 999
      by_cases g : d = vN (sV σ)
      · rw [if_pos g]; exact ⟨by decide, by decide⟩
      · rw [if_neg g]; exact h.1 d f (by omega) hf
theorem cok_feed {σ : SV} (h : cOk σ) (x : Int32) : cOk (o_feed σ x).1 := by
  unfold o_feed
  split
  · exact h
  · split
    · exact h
    · exact h
theorem cok_text {σ : SV} (h : cOk σ) : cOk (o_text σ).1 := by
  unfold o_text
  split
  · exact h
  · split
    · exact h
    · exact h
theorem cok_force {σ : SV} (h : cOk σ) (x : Int32) : cOk (o_force σ x).1 := by
  unfold o_force
  split
  · exact h
  · exact cok_V h h.1
theorem cok_write {σ : SV} (h : cOk σ) (d f c : Int32) : cOk (o_write σ d f c).1 := by
  unfold o_write
  split
  · exact h
  · rename_i g
    split
    · exact h
    · split
      · exact h
      · have hc : 0 ≤ c.toInt ∧ c.toInt < 1000 := by
          have g3 : inB c 1000 = true := by
            cases e : inB c 1000 with
            | true => rfl
            | false => exact absurd (Or.inr (Or.inr e)) g
          exact inB_t.mp g3
        exact cok_V h (cB_set h.1 (Int.le_trans (by decide) (keeps_nn hc.1)) (keeps_up hc.1 (by omega)))
theorem cok_lose {σ : SV} (h : cOk σ) (d f : Int32) : cOk (o_lose σ d f).1 := by
  unfold o_lose
  split
  · exact h
  · split
    · exact h
    · exact cok_V h (cB_set h.1 (by decide) (by decide))
theorem cok_copies {σ : SV} (h : cOk σ) (h6 : vN (sV σ) ≤ 6) (a b : Int32) : cOk (o_copies σ a b).1 := by
  unfold o_copies
  split
  · exact h
  · rename_i g
    split
    · exact h
    · have ht : two σ a b = true := by
        cases e : two σ a b with
        | true => rfl
        | false => exact absurd e g
      unfold two at ht
      rw [Bool.and_eq_true, Bool.and_eq_true] at ht
      obtain ⟨n, hn, en⟩ := inB_of ht.1.1 (by omega)
      have ha : oN a < vN (sV σ) := by rw [en, oN_nI (by omega)]; exact hn
      rw [← sCp_eq]
      exact cok_V h (cB_cp h.1 ha _ 8 (Nat.le_refl _))
theorem cok_image {σ : SV} (h : cOk σ) : cOk (o_image σ).1 := ⟨h.1, fun u hu => by
  have hu' : some (sV σ) = some u := hu
  cases hu'
  exact h.1⟩
theorem cok_back {σ : SV} (h : cOk σ) : cOk (o_back σ).1 := by
  unfold o_back
  cases e : sK σ with
  | none => exact h
  | some u => exact cok_V h (h.2 u e)
theorem cok_sheet {σ : SV} (h : cOk σ) (s x n : Int32) : cOk (o_sheet σ s x n).1 := by
  unfold o_sheet
  split
  · exact h
  · split
    · exact h
    · split
      · exact h
      · split
        · exact h
        · exact h
theorem cok_cell {σ : SV} (h : cOk σ) (s i x : Int32) : cOk (o_cell σ s i x).1 := by
  unfold o_cell
  split
  · exact h
  · split
    · exact h
    · split
      · exact h
      · exact h
theorem cok_copy {σ : SV} (h : cOk σ) (s i s2 j n : Int32) : cOk (o_copy σ s i s2 j n).1 := by
  unfold o_copy
  split
  · exact h
  · split
    · exact h
    · split
      · exact h
      · split
        · exact h
        · exact h
theorem cok_film1 {σ : SV} (h : cOk σ) (s d : Nat) : ∀ f, cOk (film1 σ s d f) := by
  intro f
  induction f with
  | zero => exact h
  | succ f ih => exact ih
theorem cok_film {σ : SV} (h : cOk σ) (s d : Int32) : cOk (o_film σ s d).1 := by
  unfold o_film
  split
  · exact h
  · exact cok_film1 h _ _ 8
theorem cok_dk (s : Nat) : ∀ k (τ : SV) (p c : Int32), cOk τ → cOk (dkF τ s p c k).1 := by
  intro k
  induction k with
  | zero => intro τ p c h; exact h
  | succ k ih =>
    intro τ p c h
    rw [dkF]
    split
    · exact h
    · exact ih _ _ _ (cok_disk h _ _)
theorem cok_disks {σ : SV} (h : cOk σ) (s x f n : Int32) : cOk (o_disks σ s x f n).1 := by
  unfold o_disks
  split
  · exact h
  · split
    · exact h
    · split
      · exact h
      · exact cok_dk _ _ _ _ _ h
