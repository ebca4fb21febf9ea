/-! THE PARSER, said of bytes alone: Y k is the byte at k, there are n -/
def rnF (P : Nat → Bool) : Nat → Nat → Nat
  | 0, p => p
  | k + 1, p => if P p = true then rnF P k (p + 1) else p
/-- the first from p on, below n, for which P doesn't stand (n: none) -/
def rnT (P : Nat → Bool) (n p : Nat) : Nat := rnF P (n - p) p
section RNT
variable {P : Nat → Bool} {n p : Nat}
theorem rnT_n (h : n ≤ p) : rnT P n p = p := by
  unfold rnT
  rw [show n - p = 0 by omega]
  rfl
theorem rnT_t (h : p < n) (hP : P p = true) : rnT P n p = rnT P n (p + 1) := by
  unfold rnT
  rw [show n - p = (n - (p + 1)) + 1 by omega, rnF, if_pos hP]
theorem rnT_f (hP : P p = false) : rnT P n p = p := by
  unfold rnT
  cases n - p with
  | zero => rfl
  | succ k => rw [rnF, if_neg (by rw [hP]; decide)]
theorem rnF_le : ∀ k p, p ≤ rnF P k p ∧ rnF P k p ≤ p + k := by
  intro k
  induction k with
  | zero => intro p; exact ⟨Nat.le_refl _, Nat.le_refl _⟩
  | succ k ih =>
    intro p
    rw [rnF]
    split
    · have := ih (p + 1)
      omega
    · omega
theorem rnT_le (h : p ≤ n) : p ≤ rnT P n p ∧ rnT P n p ≤ n := by
  unfold rnT
  have := rnF_le (P := P) (n - p) p
  omega
theorem rnF_all : ∀ k p i, p ≤ i → i < rnF P k p → P i = true := by
  intro k
  induction k with
  | zero => intro p i h1 h2; rw [rnF] at h2; omega
  | succ k ih =>
    intro p i h1 h2
    rw [rnF] at h2
    split at h2
    · rename_i hp
      by_cases g : i = p
      · rw [g]; exact hp
      · exact ih (p + 1) i (by omega) h2
    · omega
theorem rnT_all {i : Nat} (h1 : p ≤ i) (h2 : i < rnT P n p) : P i = true := rnF_all _ _ _ h1 h2
end RNT
def cLet (x : Int32) : Bool := decide (97 ≤ x.toInt ∧ x.toInt ≤ 122)
def cDig (x : Int32) : Bool := decide (48 ≤ x.toInt ∧ x.toInt ≤ 57)
def cSgn (x : Int32) : Bool := decide (x = 40) || decide (x = 41) || decide (x = 59) || decide (x = 43) || decide (x = 45) || decide (x = 42) || decide (x = 60) || decide (x = 61)
def tBl (Y : Nat → Int32) (k : Nat) : Bool := decide (Y k = 32) || decide (Y k = 10)
def tLe (Y : Nat → Int32) (k : Nat) : Bool := cLet (Y k)
def tDi (Y : Nat → Int32) (k : Nat) : Bool := cDig (Y k)
/-- the words, each with a blank behind it -/
def wbL : List Int32 := [116, 97, 107, 101, 115, 32, 103, 111, 101, 115, 32, 119, 111, 114, 116, 104, 32, 111, 114, 32, 97, 110, 100, 32, 110, 111, 116, 32, 104, 101, 114, 101, 32, 116, 104, 101, 114, 101, 32, 115, 97, 109, 101, 32, 110, 117, 109, 98, 101, 114, 32, 102, 105, 108, 101, 32, 100, 97, 121, 32]
def wbB (i : Nat) : Int32 := wbL.getD i 0
def wst (j : Nat) : Nat := ([0, 6, 11, 17, 20, 24, 28, 33, 39, 44, 51, 56] : List Nat).getD j 0
def wln (j : Nat) : Nat := ([5, 4, 5, 2, 3, 3, 4, 5, 4, 6, 4, 3] : List Nat).getD j 0
/-- whether what stands from p till e is word j -/
def wis (Y : Nat → Int32) (p e j : Nat) : Bool := decide (e = p + wln j) && !anyN (fun i => !decide (wbB (wst j + i) = Y (p + i))) (wln j)
def wdF (Y : Nat → Int32) (p e : Nat) : Nat → Nat → Nat
  | 0, _ => 12
  | c + 1, j => if wis Y p e j = true then j else wdF Y p e c (j + 1)
/-- which word it is; 12: none -/
def wdx (Y : Nat → Int32) (p e : Nat) : Nat := wdF Y p e 12 0
theorem wdF_le {Y : Nat → Int32} {p e : Nat} : ∀ c j, c + j = 12 → wdF Y p e c j ≤ 12 := by
  intro c
  induction c with
  | zero => intro j _; exact Nat.le_refl _
  | succ c ih =>
    intro j h
    rw [wdF]
    split
    · omega
    · exact ih (j + 1) (by omega)
theorem wdx_le (Y : Nat → Int32) (p e : Nat) : wdx Y p e ≤ 12 := wdF_le 12 0 rfl
/-- what so many digits from p on say -/
def nvF (Y : Nat → Int32) (p : Nat) : Nat → Int32
  | 0 => 0
  | k + 1 => nvF Y p k * 10 + Y (p + k) - 48
section TK
variable (Y : Nat → Int32) (n : Nat)
/-- the token behind place x: where it begins, where it ends, what it is, what it says -/
def tkP (x : Nat) : Nat := rnT (tBl Y) n x
def tkE (x : Nat) : Nat := if n ≤ tkP Y n x then tkP Y n x else if cLet (Y (tkP Y n x)) = true then rnT (tLe Y) n (tkP Y n x) else if cDig (Y (tkP Y n x)) = true then rnT (tDi Y) n (tkP Y n x) else tkP Y n x + 1
def wkK (w : Nat) : Int32 := if 12 ≤ w then 1 else if 6 ≤ w then 3 else nI (4 + w)
def tkK (x : Nat) : Int32 := if n ≤ tkP Y n x then 0 else if cLet (Y (tkP Y n x)) = true then wkK (wdx Y (tkP Y n x) (tkE Y n x)) else if cDig (Y (tkP Y n x)) = true then (if 4 < tkE Y n x - tkP Y n x then 1 else 2) else if cSgn (Y (tkP Y n x)) = true then Y (tkP Y n x) else 1
def tkV (x : Nat) : Int32 := if cLet (Y (tkP Y n x)) = true then nI (wdx Y (tkP Y n x) (tkE Y n x) - 6) else nvF Y (tkP Y n x) (tkE Y n x - tkP Y n x)
end TK
section TKL
variable {Y : Nat → Int32} {n x : Nat}
theorem tkP_le (h : x ≤ n) : x ≤ tkP Y n x ∧ tkP Y n x ≤ n := rnT_le h
theorem tkP_lt (h : tkK Y n x ≠ 0) : tkP Y n x < n := by
  refine Decidable.byContradiction fun hn => h ?_
  unfold tkK
  rw [if_pos (by omega)]
theorem tkE_lt (h : x ≤ n) (h2 : tkP Y n x < n) : tkP Y n x < tkE Y n x ∧ tkE Y n x ≤ n := by
  unfold tkE
  rw [if_neg (by omega)]
  split
  · rename_i hc
    rw [rnT_t h2 hc]
    exact rnT_le (by omega)
  · split
    · rename_i hc
      rw [rnT_t h2 hc]
      exact rnT_le (by omega)
    · omega
theorem tk_adv (h : x ≤ n) (h2 : tkK Y n x ≠ 0) : x < tkE Y n x ∧ tkE Y n x ≤ n := by
  have h3 := tkP_lt h2
  have h4 := tkP_le (Y := Y) h
  have h5 := tkE_lt h h3
  omega
theorem nvF_le {p : Nat} : ∀ k, k ≤ 4 → (∀ i, i < k → cDig (Y (p + i)) = true) → 0 ≤ (nvF Y p k).toInt ∧ (nvF Y p k).toInt < 10 ^ k := by
  intro k
  induction k with
  | zero => intro _ _; exact ⟨by show (0 : Int) ≤ (0 : Int32).toInt; decide, by show (0 : Int32).toInt < (1 : Int); decide⟩
  | succ k ih =>
    intro hk h
    obtain ⟨h1, h2⟩ := ih (by omega) fun i hi => h i (by omega)
    have h3 := of_decide_eq_true (h k (by omega))
    have h4 : (10 : Int) ^ k ≤ 1000 := by
      rcases (by omega : k = 0 ∨ k = 1 ∨ k = 2 ∨ k = 3) with rfl | rfl | rfl | rfl <;> decide
    have e1 : (nvF Y p k * 10).toInt = (nvF Y p k).toInt * 10 := by
      rw [Int32.toInt_mul]
      exact Int.bmod_eq_of_le (by show _ ≤ (nvF Y p k).toInt * 10; omega) (by show (nvF Y p k).toInt * 10 < _; omega)
    have e2 : (nvF Y p k * 10 + Y (p + k)).toInt = (nvF Y p k).toInt * 10 + (Y (p + k)).toInt := by
      rw [Int32.toInt_add, e1]
      exact Int.bmod_eq_of_le (by omega) (by omega)
    have e3 : (nvF Y p k * 10 + Y (p + k) - 48).toInt = (nvF Y p k).toInt * 10 + (Y (p + k)).toInt - 48 := by
      rw [Int32.toInt_sub, e2]
      exact Int.bmod_eq_of_le (by show _ ≤ _ - (48 : Int); omega) (by show _ - (48 : Int) < _; omega)
    rw [nvF, e3, Int.pow_succ]
    omega
theorem wkK_ne {w : Nat} (h : w ≤ 12) : wkK w ≠ 2 ∧ wkK w ≠ 0 ∧ (wkK w = 3 → 6 ≤ w ∧ w < 12) := by
  unfold wkK
  rcases (by omega : w = 0 ∨ w = 1 ∨ w = 2 ∨ w = 3 ∨ w = 4 ∨ w = 5 ∨ w = 6 ∨ w = 7 ∨ w = 8 ∨ w = 9 ∨ w = 10 ∨ w = 11 ∨ w = 12) with rfl | rfl | rfl | rfl | rfl | rfl | rfl | rfl | rfl | rfl | rfl | rfl | rfl <;> decide
theorem cSgn_ne {c : Int32} (h : cSgn c = true) : c ≠ 2 ∧ c ≠ 3 ∧ c ≠ 0 := by
  unfold cSgn at h
  simp only [Bool.or_eq_true, decide_eq_true_eq] at h
  rcases h with ((((((h | h) | h) | h) | h) | h) | h) | h <;> (subst h; decide)
theorem tk_num (h : x ≤ n) (h2 : tkK Y n x = 2) : 0 ≤ (tkV Y n x).toInt ∧ (tkV Y n x).toInt < 10000 := by
  have h3 := tkP_lt (Y := Y) (n := n) (x := x) (by rw [h2]; decide)
  unfold tkK at h2
  rw [if_neg (by omega)] at h2
  unfold tkV
  split at h2
  · exact absurd h2 (wkK_ne (wdx_le _ _ _)).1
  · rename_i hl
    rw [if_neg hl]
    split at h2
    · rename_i hd
      split at h2
      · exact absurd h2 (by decide)
      · rename_i h4
        have hE : tkE Y n x = rnT (tDi Y) n (tkP Y n x) := by
          unfold tkE
          rw [if_neg (by omega), if_neg hl, if_pos hd]
        have hb := tkE_lt h h3
        have := nvF_le (Y := Y) (p := tkP Y n x) (tkE Y n x - tkP Y n x) (by omega) fun i hi => by
          have := rnT_all (P := tDi Y) (n := n) (p := tkP Y n x) (i := tkP Y n x + i) (by omega) (by rw [← hE]; omega)
          exact this
        refine ⟨this.1, Int.lt_of_lt_of_le this.2 ?_⟩
        rcases (by omega : tkE Y n x - tkP Y n x = 0 ∨ tkE Y n x - tkP Y n x = 1 ∨ tkE Y n x - tkP Y n x = 2 ∨ tkE Y n x - tkP Y n x = 3 ∨ tkE Y n x - tkP Y n x = 4) with e | e | e | e | e <;> rw [e] <;> decide
    · split at h2
      · rename_i hs
        exact absurd h2 (cSgn_ne hs).1
      · exact absurd h2 (by decide)
theorem tk_name (h2 : tkK Y n x = 3) : ∃ v, v < 6 ∧ tkV Y n x = nI v ∧ cLet (Y (tkP Y n x)) = true ∧ wdx Y (tkP Y n x) (tkE Y n x) = v + 6 := by
  have h3 := tkP_lt (Y := Y) (n := n) (x := x) (by rw [h2]; decide)
  unfold tkK at h2
  rw [if_neg (by omega)] at h2
  unfold tkV
  split at h2
  · rename_i hl
    rw [if_pos hl]
    have hw := (wkK_ne (wdx_le Y (tkP Y n x) (tkE Y n x))).2.2 h2
    exact ⟨wdx Y (tkP Y n x) (tkE Y n x) - 6, by omega, rfl, hl, by omega⟩
  · split at h2
    · split at h2
      · exact absurd h2 (by decide)
      · exact absurd h2 (by decide)
    · split at h2
      · rename_i hs
        exact absurd h2 (cSgn_ne hs).2.1
      · exact absurd h2 (by decide)
end TKL
/-- what a part of a text comes to: whether it stands, at which place the next token is looked for, the steps, what they say of the names -/
abbrev PR : Type := Bool × Nat × List Int32 × ((Nat → Int32) → Int32)
def pzF (x : Nat) : PR := (false, x, [], fun _ => 0)
def pNeg (r : PR) : PR := (r.1, r.2.1, r.2.2.1 ++ [-7], fun nm => -(r.2.2.2 nm))
def pDen (r : PR) : PR := (r.1, r.2.1, r.2.2.1 ++ [-8], fun nm => b2i (decide (r.2.2.2 nm = 0)))
def pJn (s : Int32) (a r : PR) : PR := (r.1, r.2.1, a.2.2.1 ++ r.2.2.1 ++ [s], fun nm => zop s (a.2.2.2 nm) (r.2.2.2 nm))
/-- the step by which a token joins, on a level -/
def stp (l : Nat) (k : Int32) : Int32 :=
  if k = 7 then (if l = 0 then -15 else -1) else if k = 8 then (if l = 1 then -14 else -1) else if k = 42 then (if l = 4 then -9 else -1) else if k = 43 then (if l = 3 then -10 else -1) else if k = 45 then (if l = 3 then -11 else -1) else if k = 60 then (if l = 2 then -12 else -1) else if k = 61 then (if l = 2 then -13 else -1) else -1
section PZ
variable (Y : Nat → Int32) (n : Nat)
/-- what must be closed by the sign c -/
def pCl (c : Int32) (r : PR) : PR := if r.1 = false then pzF r.2.1 else if tkK Y n r.2.1 = c then (true, tkE Y n r.2.1, r.2.2.1, r.2.2.2) else pzF r.2.1
def pOne (g0 : Bool) (sub : Nat → Nat → PR) (x : Nat) : PR :=
  if tkK Y n x = 2 then (true, tkE Y n x, [tkV Y n x], fun _ => tkV Y n x)
  else if tkK Y n x = 3 then (true, tkE Y n x, [-1 - tkV Y n x], fun nm => nm (tkV Y n x).toNatClampNeg)
  else if (¬ tkK Y n x = 40 ∧ ¬ tkK Y n x = 45) ∨ g0 = true then pzF x
  else if tkK Y n x = 40 then pCl Y n 41 (sub 5 (tkE Y n x))
  else pNeg (sub 0 (tkE Y n x))
def chn (l : Nat) (nxt : Nat → PR) : Nat → PR → PR
  | 0, a => a
  | k + 1, a => if a.1 = false ∨ stp l (tkK Y n a.2.1) = -1 then a else chn l nxt k (pJn (stp l (tkK Y n a.2.1)) a (nxt (tkE Y n a.2.1)))
/-- level 5 - m -/
def lev (g0 : Bool) (sub : Nat → Nat → PR) : Nat → Nat → PR
  | 0, x => pOne Y n g0 sub x
  | m + 1, x => if m = 2 ∧ tkK Y n x = 9 then (if g0 = true then pzF x else pDen (sub 3 (tkE Y n x))) else chn Y n (4 - m) (lev g0 sub m) (if m = 2 then 1 else 160) (lev g0 sub m x)
/-- level 5 - m, g more may be open -/
def pLv : Nat → Nat → Nat → PR
  | 0 => lev Y n true (fun _ _ => pzF 0)
  | g + 1 => lev Y n false (pLv g)
/-- part p of a text -/
def pPt (p x : Nat) : PR := if tkK Y n x = nI (4 + p) then pCl Y n 59 (pLv Y n 5 5 (tkE Y n x)) else pzF x
def pX : Nat → Nat
  | 0 => 0
  | p + 1 => (pPt Y n p (pX p)).2.1
def pSt : Nat → List Int32
  | 0 => []
  | p + 1 => pSt p ++ (pPt Y n p (pX Y n p)).2.2.1
/-- the place of the fault; -1 -/
def pRd (p : Nat) : Nat → Int32
  | 0 => if tkK Y n (pX Y n p) = 0 then -1 else nI (tkP Y n (pX Y n p))
  | k + 1 => if (pPt Y n p (pX Y n p)).1 = true then pRd (p + 1) k else nI (tkP Y n (pX Y n (p + 1)))
end PZ
/-! what the steps of a part say -/
def zl (nm : Nat → Int32) (z : Nat × (Nat → Int32)) (s : List Int32) : Nat × (Nat → Int32) := s.foldl (zstep nm) z
def PE (N : Nat) (r : PR) : Prop := ∀ (nm : Nat → Int32) (k : Nat) (st : Nat → Int32), k + N ≤ 32 → ∃ st' : Nat → Int32, zl nm (k, st) r.2.2.1 = (k + 1, st') ∧ st' k = r.2.2.2 nm ∧ ∀ j, j < k → st' j = st j
def PG (n N x : Nat) (r : PR) : Prop := r.2.1 ≤ n ∧ (r.1 = true → x + r.2.2.1.length ≤ r.2.1 ∧ x < r.2.1 ∧ PE N r)
theorem zl_app (nm : Nat → Int32) (z : Nat × (Nat → Int32)) (s u : List Int32) : zl nm z (s ++ u) = zl nm (zl nm z s) u := List.foldl_append
theorem zl_1 (nm : Nat → Int32) (z : Nat × (Nat → Int32)) (s : Int32) : zl nm z [s] = zstep nm z s := rfl
theorem PG_F {n N x y : Nat} (h : y ≤ n) : PG n N x (pzF y) := ⟨h, fun h => by cases h⟩
theorem PE_up {N N' : Nat} {r : PR} (h : PE N r) (hN : N ≤ N') : PE N' r := fun nm k st hk => h nm k st (by omega)
theorem zs_neg {nm : Nat → Int32} {k : Nat} {st : Nat → Int32} {s : Int32} (hs : s = -7 ∨ s = -8) : zstep nm (k + 1, st) s = (k + 1, upd st k (if s = -7 then -(st k) else b2i (decide (st k = 0)))) := by
  rcases hs with rfl | rfl
  · rw [← zst_t (by decide) (by decide) (by decide)]
    unfold zturn
    rw [if_pos (Nat.succ_pos _)]
    rfl
  · rw [← zst_t (by decide) (by decide) (by decide)]
    unfold zturn
    rw [if_pos (Nat.succ_pos _)]
    rfl
theorem stp_i {c : Prop} {d : Decidable c} {a : Int32} (ha : a < -8) (h : ¬ (if c then a else -1) = -1) : (if c then a else -1) < -8 := by
  by_cases g : c
  · rw [if_pos g]; exact ha
  · rw [if_neg g] at h; exact absurd rfl h
theorem stp_j {l : Nat} {k : Int32} (h : ¬ stp l k = -1) : stp l k < -8 ∧ k ≠ 0 := by
  refine ⟨?_, fun e => by subst e; exact h rfl⟩
  unfold stp at h ⊢
  by_cases h1 : k = 7
  · rw [if_pos h1] at h ⊢; exact stp_i (by decide) h
  rw [if_neg h1] at h ⊢
  by_cases h2 : k = 8
  · rw [if_pos h2] at h ⊢; exact stp_i (by decide) h
  rw [if_neg h2] at h ⊢
  by_cases h3 : k = 42
  · rw [if_pos h3] at h ⊢; exact stp_i (by decide) h
  rw [if_neg h3] at h ⊢
  by_cases h4 : k = 43
  · rw [if_pos h4] at h ⊢; exact stp_i (by decide) h
  rw [if_neg h4] at h ⊢
  by_cases h5 : k = 45
  · rw [if_pos h5] at h ⊢; exact stp_i (by decide) h
  rw [if_neg h5] at h ⊢
  by_cases h6 : k = 60
  · rw [if_pos h6] at h ⊢; exact stp_i (by decide) h
  rw [if_neg h6] at h ⊢
  by_cases h7 : k = 61
  · rw [if_pos h7] at h ⊢; exact stp_i (by decide) h
  rw [if_neg h7] at h
  exact absurd rfl h
theorem upd_at (f : Nat → Int32) (a : Nat) (v : Int32) (b : Nat) : upd f a v b = if b = a then v else f b := rfl
theorem PE_neg {N : Nat} {r : PR} (h : PE N r) : PE N (pNeg r) := by
  intro nm k st hk
  obtain ⟨s1, e1, e2, e3⟩ := h nm k st hk
  refine ⟨upd s1 k (-(s1 k)), ?_, ?_, fun j hj => ?_⟩
  · show zl nm (k, st) (r.2.2.1 ++ [-7]) = _
    rw [zl_app, e1, zl_1, zs_neg (Or.inl rfl), if_pos rfl]
  · rw [upd_at, if_pos rfl, e2]; rfl
  · rw [upd_at, if_neg (by omega)]; exact e3 j hj
theorem PE_den {N : Nat} {r : PR} (h : PE N r) : PE N (pDen r) := by
  intro nm k st hk
  obtain ⟨s1, e1, e2, e3⟩ := h nm k st hk
  refine ⟨upd s1 k (b2i (decide (s1 k = 0))), ?_, ?_, fun j hj => ?_⟩
  · show zl nm (k, st) (r.2.2.1 ++ [-8]) = _
    rw [zl_app, e1, zl_1, zs_neg (Or.inr rfl), if_neg (by decide)]
  · rw [upd_at, if_pos rfl, e2]; rfl
  · rw [upd_at, if_neg (by omega)]; exact e3 j hj
theorem PE_jn {N : Nat} {a r : PR} {s : Int32} (hs : s < -8) (ha : PE (N + 1) a) (hr : PE N r) : PE (N + 1) (pJn s a r) := by
  intro nm k st hk
  obtain ⟨s1, e1, e2, e3⟩ := ha nm k st hk
  obtain ⟨s2, f1, f2, f3⟩ := hr nm (k + 1) s1 (by omega)
  have h1 : s < 0 := by rw [i_lt] at hs ⊢; exact Int.lt_trans hs (by decide)
  have h2 : s < -6 := by rw [i_lt] at hs ⊢; exact Int.lt_trans hs (by decide)
  refine ⟨upd s2 k (zop s (s2 k) (s2 (k + 1))), ?_, ?_, fun j hj => ?_⟩
  · show zl nm (k, st) (a.2.2.1 ++ r.2.2.1 ++ [s]) = _
    rw [zl_app, zl_app, e1, f1, zl_1, ← zst_j h1 h2 hs]
    unfold zjoin
    rw [if_pos (by show 2 ≤ k + 1 + 1; omega)]
    rfl
  · rw [upd_at, if_pos rfl, f2, f3 k (by omega), e2]; rfl
  · rw [upd_at, if_neg (by omega), f3 j (by omega)]; exact e3 j hj
section PGL
variable {Y : Nat → Int32} {n : Nat}
theorem PG_cl {N x x0 : Nat} {c : Int32} (hc : c ≠ 0) {r : PR} (h : PG n N x0 r) (hx : x ≤ x0) : PG n N x (pCl Y n c r) := by
  obtain ⟨h1, h2⟩ := h
  unfold pCl
  split
  · exact PG_F h1
  · rename_i hr
    split
    · rename_i hk
      obtain ⟨g1, g2, g3⟩ := h2 (by cases e : r.1 with | true => rfl | false => exact absurd e hr)
      have := tk_adv (Y := Y) h1 (by rw [hk]; exact hc)
      exact ⟨this.2, fun _ => ⟨by show x + r.2.2.1.length ≤ tkE Y n r.2.1; omega, by show x < tkE Y n r.2.1; omega, g3⟩⟩
    · exact PG_F h1
theorem PG_one {g0 : Bool} {sub : Nat → Nat → PR} {N N0 N5 x : Nat} (hN : 1 ≤ N) (hx : x ≤ n) (hs : g0 = false → ∀ y, y ≤ n → PG n N0 y (sub 0 y) ∧ PG n N5 y (sub 5 y)) (h0 : N0 ≤ N) (h5 : N5 ≤ N) : PG n N x (pOne Y n g0 sub x) := by
  unfold pOne
  split
  · rename_i hk
    have ha := tk_adv (Y := Y) hx (by rw [hk]; decide)
    have hv := tk_num (Y := Y) hx hk
    refine ⟨ha.2, fun _ => ⟨by show x + 1 ≤ tkE Y n x; omega, ha.1, fun nm k st hk2 => ⟨upd st k (tkV Y n x), ?_, ?_, fun j hj => ?_⟩⟩⟩
    · rw [zl_1, ← zst_p (by rw [i_lt]; simpa using hv.1)]
      unfold zpush
      rw [if_pos (by show k < 32; omega)]
    · rw [upd_at, if_pos rfl]
    · rw [upd_at, if_neg (by omega)]
  · split
    · rename_i hk
      have ha := tk_adv (Y := Y) hx (by rw [hk]; decide)
      obtain ⟨v, hv, ev, -, -⟩ := tk_name (Y := Y) hk
      refine ⟨ha.2, fun _ => ⟨by show x + 1 ≤ tkE Y n x; omega, ha.1, fun nm k st hk2 => ⟨upd st k (nm v), ?_, ?_, fun j hj => ?_⟩⟩⟩
      · rw [zl_1, ev]
        have e1 : (-1 - nI v) < 0 ∧ ¬ (-1 - nI v) < -6 ∧ (-1 - (-1 - nI v).toInt).toNat = v := by
          rcases (by omega : v = 0 ∨ v = 1 ∨ v = 2 ∨ v = 3 ∨ v = 4 ∨ v = 5) with rfl | rfl | rfl | rfl | rfl | rfl <;> decide
        rw [← zst_n e1.1 e1.2.1, e1.2.2]
        unfold zpush
        rw [if_pos (by show k < 32; omega)]
      · rw [upd_at, if_pos rfl, ev, nI_clamp (by omega)]
      · rw [upd_at, if_neg (by omega)]
    · split
      · exact PG_F hx
      · rename_i hg
        have hg0 : g0 = false := by cases g0 with | true => exact absurd (Or.inr rfl) hg | false => rfl
        have hne : tkK Y n x ≠ 0 := fun e => hg (Or.inl (by rw [e]; decide))
        have ha := tk_adv (Y := Y) hx hne
        obtain ⟨s0, s5⟩ := hs hg0 _ ha.2
        split
        · obtain ⟨p1, p2⟩ := PG_cl (Y := Y) (c := 41) (x := x) (by decide) s5 (by omega)
          exact ⟨p1, fun h => ⟨(p2 h).1, (p2 h).2.1, PE_up (p2 h).2.2 h5⟩⟩
        · refine ⟨s0.1, fun h => ?_⟩
          obtain ⟨q1, q2, q3⟩ := s0.2 h
          refine ⟨?_, ?_, PE_up (PE_neg q3) h0⟩
          · show x + ((sub 0 (tkE Y n x)).2.2.1 ++ [-7]).length ≤ (sub 0 (tkE Y n x)).2.1
            rw [List.length_append]
            show x + (_ + 1) ≤ _
            omega
          · show x < (sub 0 (tkE Y n x)).2.1
            omega
theorem PG_chn {l N x : Nat} {nxt : Nat → PR} (hn : ∀ y, y ≤ n → PG n N y (nxt y)) : ∀ k a, PG n (N + 1) x a → PG n (N + 1) x (chn Y n l nxt k a) := by
  intro k
  induction k with
  | zero => intro a h; exact h
  | succ k ih =>
    intro a h
    rw [chn]
    split
    · exact h
    · rename_i hc
      obtain ⟨h1, h2⟩ := h
      have ht : a.1 = true := by cases e : a.1 with | true => rfl | false => exact absurd (Or.inl e) hc
      obtain ⟨g1, g2, g3⟩ := h2 ht
      have hj := stp_j (fun e => hc (Or.inr e))
      have ha := tk_adv (Y := Y) h1 hj.2
      obtain ⟨r1, r2⟩ := hn _ ha.2
      refine ih _ ⟨r1, fun hr => ?_⟩
      obtain ⟨q1, q2, q3⟩ := r2 hr
      refine ⟨?_, ?_, PE_jn hj.1 g3 q3⟩
      · show x + (a.2.2.1 ++ (nxt (tkE Y n a.2.1)).2.2.1 ++ [stp l (tkK Y n a.2.1)]).length ≤ (nxt (tkE Y n a.2.1)).2.1
        rw [List.length_append, List.length_append]
        show x + (_ + _ + 1) ≤ _
        omega
      · show x < (nxt (tkE Y n a.2.1)).2.1
        omega
theorem PG_lev {g0 : Bool} {sub : Nat → Nat → PR} {N : Nat} (hN : 1 ≤ N) (hs : g0 = false → ∀ y, y ≤ n → PG n (N - 5) y (sub 0 y) ∧ PG n N y (sub 5 y) ∧ PG n (N - 2) y (sub 3 y)) : ∀ m x, x ≤ n → PG n (N + m) x (lev Y n g0 sub m x) := by
  intro m
  induction m with
  | zero =>
    intro x hx
    exact PG_one hN hx (fun h y hy => ⟨(hs h y hy).1, (hs h y hy).2.1⟩) (by omega) (by omega)
  | succ m ih =>
    intro x hx
    rw [lev]
    split
    · rename_i hk
      split
      · exact PG_F hx
      · rename_i hg
        have hg0 : g0 = false := by cases g0 with | true => exact absurd rfl hg | false => rfl
        have ha := tk_adv (Y := Y) hx (by rw [hk.2]; decide)
        obtain ⟨-, -, s3⟩ := hs hg0 _ ha.2
        refine ⟨s3.1, fun h => ?_⟩
        obtain ⟨q1, q2, q3⟩ := s3.2 h
        refine ⟨?_, ?_, PE_up (PE_den q3) (by omega)⟩
        · show x + ((sub 3 (tkE Y n x)).2.2.1 ++ [-8]).length ≤ (sub 3 (tkE Y n x)).2.1
          rw [List.length_append]
          show x + (_ + 1) ≤ _
          omega
        · show x < (sub 3 (tkE Y n x)).2.1
          omega
    · have h0 := ih x hx
      exact PG_chn ih _ _ ⟨h0.1, fun h => ⟨(h0.2 h).1, (h0.2 h).2.1, PE_up (h0.2 h).2.2 (by omega)⟩⟩
theorem PG_Lv : ∀ g m x, x ≤ n → PG n (1 + 5 * g + m) x (pLv Y n g m x) := by
  intro g
  induction g with
  | zero => intro m x hx; exact PG_lev (by omega) (fun h => by cases h) m x hx
  | succ g ih =>
    intro m x hx
    rw [pLv]
    refine PG_lev (by omega) (fun _ y hy => ⟨?_, ?_, ?_⟩) m x hx
    · have := ih 0 y hy
      rwa [show 1 + 5 * (g + 1) - 5 = 1 + 5 * g + 0 by omega]
    · have := ih 5 y hy
      rwa [show 1 + 5 * (g + 1) = 1 + 5 * g + 5 by omega]
    · have := ih 3 y hy
      rwa [show 1 + 5 * (g + 1) - 2 = 1 + 5 * g + 3 by omega]
theorem PG_Pt {p x : Nat} (hx : x ≤ n) (hp : p < 3) : PG n 31 x (pPt Y n p x) := by
  unfold pPt
  split
  · rename_i hk
    have ha := tk_adv (Y := Y) hx (by rw [hk]; rcases (by omega : p = 0 ∨ p = 1 ∨ p = 2) with rfl | rfl | rfl <;> decide)
    exact PG_cl (by decide) (PG_Lv 5 5 _ ha.2) (by omega)
  · exact PG_F hx
theorem pX_le : ∀ p, p ≤ 3 → pX Y n p ≤ n := by
  intro p
  induction p with
  | zero => intro _; exact Nat.zero_le _
  | succ p ih => intro hp; exact (PG_Pt (ih (by omega)) (by omega)).1
end PGL
