/-! a rule's own little machine -/
def zM (M : MM) (q : Nat) : Nat × (Nat → Int32) := ((M (19 + 5 * q) 5).toNatClampNeg, M (23 + 5 * q))
def zput (M : MM) (q : Nat) (z : Nat × (Nat → Int32)) : MM := mu (mr M (23 + 5 * q) z.2) (19 + 5 * q) 5 (nI z.1)
def zpush (z : Nat × (Nat → Int32)) (v : Int32) : Nat × (Nat → Int32) := if z.1 < 32 then (z.1 + 1, upd z.2 z.1 v) else z
def zturn (z : Nat × (Nat → Int32)) (s : Int32) : Nat × (Nat → Int32) := if 0 < z.1 then (z.1, upd z.2 (z.1 - 1) (if s = -7 then -(z.2 (z.1 - 1)) else b2i (decide (z.2 (z.1 - 1) = 0)))) else z
def zop (s a b : Int32) : Int32 :=
  if s = -9 then a * b else if s = -10 then a + b else if s = -11 then a - b else if s = -12 then b2i (decide (a < b)) else if s = -13 then b2i (decide (a = b)) else if s = -14 then b2i (decide (a ≠ 0) && decide (b ≠ 0)) else b2i (decide (a ≠ 0) || decide (b ≠ 0))
def zjoin (z : Nat × (Nat → Int32)) (s : Int32) : Nat × (Nat → Int32) := if 2 ≤ z.1 then (z.1 - 1, upd z.2 (z.1 - 2) (zop s (z.2 (z.1 - 2)) (z.2 (z.1 - 1)))) else z
def zstep (nm : Nat → Int32) (z : Nat × (Nat → Int32)) (s : Int32) : Nat × (Nat → Int32) :=
  if 0 ≤ s.toInt then zpush z s else if -6 ≤ s.toInt then zpush z (nm (-1 - s.toInt).toNat) else if -8 ≤ s.toInt then zturn z s else zjoin z s
/-- from step i, so many -/
def zrun (steps nm : Nat → Int32) (i : Nat) : Nat → Nat × (Nat → Int32) → Nat × (Nat → Int32)
  | 0, z => z
  | k + 1, z => zstep nm (zrun steps nm i k z) (steps (i + k))
theorem zpush_le {z : Nat × (Nat → Int32)} {v : Int32} (h : z.1 ≤ 32) : (zpush z v).1 ≤ 32 := by unfold zpush; split <;> (try dsimp only) <;> omega
theorem zturn_le {z : Nat × (Nat → Int32)} {v : Int32} (h : z.1 ≤ 32) : (zturn z v).1 ≤ 32 := by unfold zturn; split <;> (try dsimp only) <;> omega
theorem zjoin_le {z : Nat × (Nat → Int32)} {v : Int32} (h : z.1 ≤ 32) : (zjoin z v).1 ≤ 32 := by unfold zjoin; split <;> (try dsimp only) <;> omega
theorem zstep_le {nm : Nat → Int32} {z : Nat × (Nat → Int32)} {v : Int32} (h : z.1 ≤ 32) : (zstep nm z v).1 ≤ 32 := by
  unfold zstep
  split
  · exact zpush_le h
  · split
    · exact zpush_le h
    · split
      · exact zturn_le h
      · exact zjoin_le h
theorem zrun_le {steps nm : Nat → Int32} {i : Nat} {z : Nat × (Nat → Int32)} (h : z.1 ≤ 32) : ∀ k, (zrun steps nm i k z).1 ≤ 32 := by
  intro k
  induction k with
  | zero => exact h
  | succ k ih => exact zstep_le ih
theorem zput_at (M : MM) (q : Nat) (z : Nat × (Nat → Int32)) (a b : Nat) : zput M q z a b = if a = 19 + 5 * q ∧ b = 5 then nI z.1 else if a = 23 + 5 * q then z.2 b else M a b := by
  unfold zput
  rw [mu_at]
  unfold mr
  split
  · rfl
  · split <;> rfl
theorem zput_top (M : MM) (q : Nat) (z : Nat × (Nat → Int32)) : zput M q z (19 + 5 * q) 5 = nI z.1 := by rw [zput_at, if_pos ⟨rfl, rfl⟩]
theorem zput_st (M : MM) (q : Nat) (z : Nat × (Nat → Int32)) (b : Nat) : zput M q z (23 + 5 * q) b = z.2 b := by rw [zput_at, if_neg (by omega), if_pos rfl]
theorem zput_o (M : MM) (q : Nat) (z : Nat × (Nat → Int32)) {a : Nat} (b : Nat) (h1 : a ≠ 19 + 5 * q ∨ b ≠ 5) (h2 : a ≠ 23 + 5 * q) : zput M q z a b = M a b := by rw [zput_at, if_neg (by omega), if_neg h2]
theorem zput_put (M : MM) (q : Nat) (z : Nat × (Nat → Int32)) (p : Nat) (x : Int32) (v : Nat) : mu (mu (zput M q z) (23 + 5 * q) p x) (19 + 5 * q) 5 (nI v) = zput M q (v, upd z.2 p x) := by
  funext a b
  rw [mu_at, mu_at, zput_at, zput_at]
  by_cases h1 : a = 19 + 5 * q ∧ b = 5
  · rw [if_pos h1, if_pos h1]
  · rw [if_neg h1, if_neg h1, if_neg h1]
    by_cases h2 : a = 23 + 5 * q
    · subst h2
      by_cases h3 : b = p
      · subst h3; simp [upd]
      · simp [upd, h3]
    · simp [h2]
theorem zput_put1 (M : MM) (q : Nat) (z : Nat × (Nat → Int32)) (p : Nat) (x : Int32) : mu (zput M q z) (23 + 5 * q) p x = zput M q (z.1, upd z.2 p x) := by
  rw [← zput_put M q z p x z.1]
  funext a b
  rw [mu_at, mu_at, mu_at, zput_at]
  by_cases h1 : a = 19 + 5 * q ∧ b = 5
  · rw [if_pos h1, if_pos h1, if_neg (by omega)]
  · rw [if_neg h1, if_neg h1]
theorem zput_put2 (M : MM) (q : Nat) (z : Nat × (Nat → Int32)) (p : Nat) (x : Int32) (v : Nat) : mu (mu (zput M q z) (19 + 5 * q) 5 (nI v)) (23 + 5 * q) p x = zput M q (v, upd z.2 p x) := by
  rw [← zput_put M q z p x v]
  funext a b
  rw [mu_at, mu_at, mu_at, mu_at]
  by_cases h1 : a = 19 + 5 * q ∧ b = 5
  · rw [if_pos h1, if_pos h1, if_neg (by omega)]
  · rw [if_neg h1, if_neg h1]
/-- agree but in what a rule q scribbles -/
def Jk (q : Nat) (A B : MM) : Prop := ∀ a b, a ≠ 22 + 5 * q → a ≠ 23 + 5 * q → (a ≠ 19 + 5 * q ∨ b ≠ 5) → B a b = A a b
theorem Jk.rf {q : Nat} {A : MM} : Jk q A A := fun _ _ _ _ _ => rfl
theorem Jk.tr {q : Nat} {A B D : MM} (h1 : Jk q A B) (h2 : Jk q B D) : Jk q A D := fun a b x y z => (h2 a b x y z).trans (h1 a b x y z)
theorem Jk.z {q : Nat} {A B : MM} {z : Nat × (Nat → Int32)} (h : Jk q A B) : Jk q A (zput B q z) := fun a b x y z' => (zput_o B q z b z' y).trans (h a b x y z')
theorem Jk.nm {q k : Nat} {A B : MM} {v : Int32} (h : Jk q A B) : Jk q A (mu B (22 + 5 * q) k v) := fun a b x y z => by rw [mu_n _ _ _ _ x]; exact h a b x y z
theorem zput_0 (M : MM) (q : Nat) : mu M (19 + 5 * q) 5 (nI 0) = zput M q (0, M (23 + 5 * q)) := by
  funext a b
  rw [mu_at, zput_at]
  split
  · rfl
  · split
    · rename_i h; subst h; rfl
    · rfl
/-- what the steps from f, n of them, say, the names being told, over an old stack s0 -/
def evJ (S nm s0 : Nat → Int32) (f n : Nat) : Int32 :=
  let z := zrun S nm f n (0, s0)
  if 0 < z.1 then z.2 (z.1 - 1) else 0
def evF (e : Nat → Nat) (p : Nat) : Nat := if p = 0 then 0 else e (p - 1)
theorem zrun_S (S nm : Nat → Int32) (i k : Nat) (z : Nat × (Nat → Int32)) : zrun S nm i (k + 1) z = zstep nm (zrun S nm i k z) (S (i + k)) := rfl
theorem zst_p {nm : Nat → Int32} {z : Nat × (Nat → Int32)} {s : Int32} (h : ¬ s < 0) : zpush z s = zstep nm z s := by
  unfold zstep
  rw [i_lt] at h
  rw [if_pos (by simpa using h)]
theorem zst_n {nm : Nat → Int32} {z : Nat × (Nat → Int32)} {s : Int32} (h : s < 0) (h2 : ¬ s < -6) : zpush z (nm (-1 - s.toInt).toNat) = zstep nm z s := by
  unfold zstep
  rw [i_lt] at h h2
  rw [if_neg (by simpa using h), if_pos (by simpa using h2)]
theorem zst_t {nm : Nat → Int32} {z : Nat × (Nat → Int32)} {s : Int32} (h : s < 0) (h2 : s < -6) (h3 : ¬ s < -8) : zturn z s = zstep nm z s := by
  unfold zstep
  rw [i_lt] at h h2 h3
  rw [if_neg (by simpa using h), if_neg (by simpa using h2), if_pos (by simpa using h3)]
theorem zst_j {nm : Nat → Int32} {z : Nat × (Nat → Int32)} {s : Int32} (h : s < 0) (h2 : s < -6) (h3 : s < -8) : zjoin z s = zstep nm z s := by
  unfold zstep
  rw [i_lt] at h h2 h3
  rw [if_neg (by simpa using h), if_neg (by simpa using h2), if_neg (by simpa using h3)]
theorem nm_ix {s : Int32} (h : s < 0) (h2 : ¬ s < -6) : -1 - s = nI (-1 - s.toInt).toNat ∧ (-1 - s.toInt).toNat < 6 := by
  have h1 : s.toInt < 0 := by simpa [i_lt] using h
  have h3 : -6 ≤ s.toInt := by simpa [i_lt] using h2
  have e : s = Int32.ofInt s.toInt := (Int32.ofInt_toInt s).symm
  refine ⟨?_, by omega⟩
  rcases (by omega : s.toInt = -1 ∨ s.toInt = -2 ∨ s.toInt = -3 ∨ s.toInt = -4 ∨ s.toInt = -5 ∨ s.toInt = -6) with g | g | g | g | g | g <;> (rw [e, g]; decide)

theorem x_M {κ : XK} {w : XW} {M M' : MM} {pc : Nat} {L : List (Nat × Value)} {st : List Value} (h : M = M') (k : XV κ (xP w M') pc L st) : XV κ (xP w M) pc L st := h ▸ k
set_option maxRecDepth 100000 in
set_option maxHeartbeats 4000000 in
theorem c_X6_clear (t : CT) (M : MM) {q : Nat} (hq : q < 7)  : XMet (wC t) yX6_clear cX6_clear 1 none 1 [.ref (t.1 (19 + 5 * q))] M (rU (mu M (19 + 5 * q) 4 0)) := by
  refine x_met RX6 (by decide) rfl (Nat.le_of_ble_eq_true rfl) (fun κ C X E => ?_)
  refine x_L (L' := [(0, .ref (t.1 (19 + 5 * q)))]) rfl ?_
  refine x_aload_n (pc := 0) C 0 dX6_clear_0 rfl ?_
  refine x_iconst (pc := 1) (v := 0) C dX6_clear_1 rfl ?_
  refine p_Rule_size (pc := 2) C E hq q8_11 dX6_clear_2 ?_
  exact x_vret (pc := 5) C X dX6_clear_5 ⟨rfl, rfl⟩

set_option maxRecDepth 100000 in
set_option maxHeartbeats 4000000 in
theorem c_X6_add (t : CT) (M : MM) {q : Nat} (hq : q < 7) {n : Nat} (hn : M (19 + 5 * q) 4 = nI n) (h16 : n ≤ 160) (x : Int32) : XMet (wC t) yX6_add cX6_add 2 none 1 [.ref (t.1 (19 + 5 * q)), .int x] M (rU (if n < 160 then mu (mu M (20 + 5 * q) n x) (19 + 5 * q) 4 (nI (n + 1)) else M)) := by
  refine x_met RX6 (by decide) rfl (Nat.le_of_ble_eq_true rfl) (fun κ C X E => ?_)
  refine x_L (L' := [(0, .ref (t.1 (19 + 5 * q))), (1, .int x)]) rfl ?_
  refine x_aload_n (pc := 0) C 0 dX6_add_0 rfl ?_
  refine g_Rule_size (pc := 1) C E hq q8_11 dX6_add_1 ?_
  refine x_eq (show M (19 + 5 * q) 4 = nI n from hn) ?_
  refine x_aload_n (pc := 4) C 0 dX6_add_4 rfl ?_
  refine g_Rule_steps (pc := 5) C E hq q3_18 dX6_add_5 ?_
  refine n_steps (pc := 8) C E hq dX6_add_8 ?_
  refine x_eq (show 160 = nI 160 from rfl) ?_
  refine x_icmp_ge (pc := 9) C 32 dX6_add_9 (by decide) (fun h9 => ?_) (fun h9 => ?_)
  · exact x_vret (pc := 32) C X dX6_add_32 ⟨rfl, by simp [show ¬ n < 160 from fun h => absurd h9 (nI_ge h (by decide))]⟩
  · have hlt : n < 160 := Nat.lt_of_not_le fun h => absurd (nI_le h (by omega)) h9
    refine x_aload_n (pc := 12) C 0 dX6_add_12 rfl ?_
    refine g_Rule_steps (pc := 13) C E hq q3_18 dX6_add_13 ?_
    refine x_aload_n (pc := 16) C 0 dX6_add_16 rfl ?_
    refine g_Rule_size (pc := 17) C E hq q8_11 dX6_add_17 ?_
    refine x_eq (show M (19 + 5 * q) 4 = nI n from hn) ?_
    refine x_iload_n (pc := 20) C 1 dX6_add_20 rfl ?_
    refine s_steps (pc := 21) C E hq (by omega) dX6_add_21 ?_
    refine x_aload_n (pc := 22) C 0 dX6_add_22 rfl ?_
    refine x_dup (pc := 23) C dX6_add_23 rfl ?_
    refine g_Rule_size (pc := 24) C E hq q8_11 dX6_add_24 ?_
    refine x_eq (show (mu M (20 + 5 * q) n x) (19 + 5 * q) 4 = nI n from (by rw [mu_n _ _ _ _ (by omega)]; exact hn)) ?_
    refine x_iconst (pc := 27) (v := 1) C dX6_add_27 rfl ?_
    refine x_iadd (pc := 28) C dX6_add_28 ?_
    refine x_eq (show (nI n) + 1 = nI (n + 1) from nI_1 n) ?_
    refine p_Rule_size (pc := 29) C E hq q8_11 dX6_add_29 ?_
    exact x_vret (pc := 32) C X dX6_add_32 ⟨rfl, by rw [if_pos (show n < 160 from Nat.lt_of_not_le fun h => absurd (nI_le h (by omega)) h9)]⟩

set_option maxRecDepth 100000 in
set_option maxHeartbeats 4000000 in
theorem c_X6_endPart (t : CT) (M : MM) {q : Nat} (hq : q < 7) {p : Nat} (hp : p < 3) : XMet (wC t) yX6_endPart cX6_endPart 2 none 1 [.ref (t.1 (19 + 5 * q)), .int (nI p)] M (rU (mu M (21 + 5 * q) p (M (19 + 5 * q) 4))) := by
  refine x_met RX6 (by decide) rfl (Nat.le_of_ble_eq_true rfl) (fun κ C X E => ?_)
  refine x_L (L' := [(0, .ref (t.1 (19 + 5 * q))), (1, .int (nI p))]) rfl ?_
  refine x_aload_n (pc := 0) C 0 dX6_endPart_0 rfl ?_
  refine g_Rule_ends (pc := 1) C E hq q3_19 dX6_endPart_1 ?_
  refine x_iload_n (pc := 4) C 1 dX6_endPart_4 rfl ?_
  refine x_aload_n (pc := 5) C 0 dX6_endPart_5 rfl ?_
  refine g_Rule_size (pc := 6) C E hq q8_11 dX6_endPart_6 ?_
  refine s_ends (pc := 9) C E hq (by omega) dX6_endPart_9 ?_
  exact x_vret (pc := 10) C X dX6_endPart_10 ⟨rfl, rfl⟩

def rBec (M : MM) (q q2 : Nat) : MM := fun a b => if a = 19 + 5 * q ∧ b = 4 then M (19 + 5 * q2) 4 else if a = 20 + 5 * q ∧ b < 160 then M (20 + 5 * q2) b else if a = 21 + 5 * q ∧ b < 3 then M (21 + 5 * q2) b else M a b
set_option maxRecDepth 100000 in
set_option maxHeartbeats 4000000 in
theorem c_X6_become (t : CT) (M : MM) {q : Nat} (hq : q < 7) {q2 : Nat} (hq2 : q2 < 7) : XMet (wC t) yX6_become cX6_become 2 none 2 [.ref (t.1 (19 + 5 * q)), .ref (t.1 (19 + 5 * q2))] M (rU (rBec M q q2)) := by
  refine x_met RX6 (by decide) rfl (Nat.le_of_ble_eq_true rfl) (fun κ C X E => ?_)
  refine x_L (L' := [(0, .ref (t.1 (19 + 5 * q))), (1, .ref (t.1 (19 + 5 * q2)))]) rfl ?_
  refine x_aload_n (pc := 0) C 0 dX6_become_0 rfl ?_
  refine x_aload_n (pc := 1) C 1 dX6_become_1 rfl ?_
  refine g_Rule_size (pc := 2) C E hq2 q8_11 dX6_become_2 ?_
  refine p_Rule_size (pc := 5) C E hq q8_11 dX6_become_5 ?_
  refine x_aload_n (pc := 8) C 1 dX6_become_8 rfl ?_
  refine g_Rule_steps (pc := 9) C E hq2 q3_18 dX6_become_9 ?_
  refine x_iconst (pc := 12) (v := (nI 0)) C dX6_become_12 (by decide) ?_
  refine x_aload_n (pc := 13) C 0 dX6_become_13 rfl ?_
  refine g_Rule_steps (pc := 14) C E hq q3_18 dX6_become_14 ?_
  refine x_iconst (pc := 17) (v := (nI 0)) C dX6_become_17 (by decide) ?_
  refine x_sipush (pc := 18) (v := (nI 160)) C dX6_become_18 (by decide) ?_
  refine x_copyi (pc := 21) C E (by decide) (n0 := 20 + 5 * q2) (n1 := 20 + 5 * q) 0 (by show _ < 146; omega) (cC_steps hq2) (by show _ < 146; omega) (fun r => (cC_steps hq)) rfl q11_4 q11_5 q11_6 q11_7 (by decide) (by decide) (by decide) (by decide) (by decide) rfl dX6_become_21 ?_
  refine x_aload_n (pc := 24) C 1 dX6_become_24 rfl ?_
  refine g_Rule_ends (pc := 25) C E hq2 q3_19 dX6_become_25 ?_
  refine x_iconst (pc := 28) (v := (nI 0)) C dX6_become_28 (by decide) ?_
  refine x_aload_n (pc := 29) C 0 dX6_become_29 rfl ?_
  refine g_Rule_ends (pc := 30) C E hq q3_19 dX6_become_30 ?_
  refine x_iconst (pc := 33) (v := (nI 0)) C dX6_become_33 (by decide) ?_
  refine x_iconst (pc := 34) (v := (nI 3)) C dX6_become_34 (by decide) ?_
  refine x_copyi (pc := 35) C E (by decide) (n0 := 21 + 5 * q2) (n1 := 21 + 5 * q) 0 (by show _ < 146; omega) (cC_ends hq2) (by show _ < 146; omega) (fun r => (cC_ends hq)) rfl q11_4 q11_5 q11_6 q11_7 (by decide) (by decide) (by decide) (by decide) (by decide) rfl dX6_become_35 ?_
  exact x_vret (pc := 38) C X dX6_become_38 ⟨rfl, by
      funext a b
      by_cases h1 : a = 19 + 5 * q
      · subst h1
        rw [mr_n _ _ _ (by omega), mr_n _ _ _ (by omega), mu_at]
        unfold rBec
        by_cases hb : b = 4
        · subst hb; simp
        · rw [if_neg (by omega), if_neg (by omega), if_neg (by omega), if_neg (by omega)]
      · by_cases h2 : a = 20 + 5 * q
        · subst h2
          rw [mr_n _ _ _ (by omega), mr_s]
          unfold rBec va_cpy
          by_cases hb : b < 160
          · rw [if_pos (by omega), mu_n _ _ _ _ (by omega), if_neg (by omega), if_pos ⟨rfl, hb⟩]
            simp
          · rw [if_neg (by omega), mu_n _ _ _ _ (by omega), if_neg (by omega), if_neg (by omega), if_neg (by omega)]
        · by_cases h3 : a = 21 + 5 * q
          · subst h3
            rw [mr_s]
            unfold rBec va_cpy
            by_cases hb : b < 3
            · rw [if_pos (by omega), mr_n _ _ _ (by omega), mu_n _ _ _ _ (by omega), if_neg (by omega), if_neg (by omega), if_pos ⟨rfl, hb⟩]
              simp
            · rw [if_neg (by omega), mr_n _ _ _ (by omega), mu_n _ _ _ _ (by omega), if_neg (by omega), if_neg (by omega), if_neg (by omega)]
          · rw [mr_n _ _ _ h3, mr_n _ _ _ h2, mu_n _ _ _ _ h1]
            unfold rBec
            rw [if_neg (by omega), if_neg (by omega), if_neg (by omega)]⟩

set_option maxRecDepth 100000 in
set_option maxHeartbeats 4000000 in
theorem c_X6_push (t : CT) (M : MM) {q : Nat} (hq : q < 7) {z : Nat × (Nat → Int32)} (hz : z.1 ≤ 32) (x : Int32) : XMet (wC t) yX6_push cX6_push 2 none 1 [.ref (t.1 (19 + 5 * q)), .int x] (zput M q z) (rU (zput M q (zpush z x))) := by
  refine x_met RX6 (by decide) rfl (Nat.le_of_ble_eq_true rfl) (fun κ C X E => ?_)
  refine x_L (L' := [(0, .ref (t.1 (19 + 5 * q))), (1, .int x)]) rfl ?_
  refine x_aload_n (pc := 0) C 0 dX6_push_0 rfl ?_
  refine g_Rule_top (pc := 1) C E hq q24_19 dX6_push_1 ?_
  refine x_eq (show (zput M q z) (19 + 5 * q) 5 = nI z.1 from (zput_top M q z)) ?_
  refine x_aload_n (pc := 4) C 0 dX6_push_4 rfl ?_
  refine g_Rule_stack (pc := 5) C E hq q3_21 dX6_push_5 ?_
  refine n_stack (pc := 8) C E hq dX6_push_8 ?_
  refine x_eq (show 32 = nI 32 from rfl) ?_
  refine x_icmp_ge (pc := 9) C 32 dX6_push_9 (by decide) (fun h9 => ?_) (fun h9 => ?_)
  · exact x_vret (pc := 32) C X dX6_push_32 ⟨rfl, by unfold zpush; rw [if_neg (show ¬ z.1 < 32 from fun h => absurd h9 (nI_ge h (by decide)))]⟩
  · refine x_aload_n (pc := 12) C 0 dX6_push_12 rfl ?_
    refine g_Rule_stack (pc := 13) C E hq q3_21 dX6_push_13 ?_
    refine x_aload_n (pc := 16) C 0 dX6_push_16 rfl ?_
    refine g_Rule_top (pc := 17) C E hq q24_19 dX6_push_17 ?_
    refine x_eq (show (zput M q z) (19 + 5 * q) 5 = nI z.1 from (zput_top M q z)) ?_
    refine x_iload_n (pc := 20) C 1 dX6_push_20 rfl ?_
    have hlt : z.1 < 32 := Nat.lt_of_not_le fun h => absurd (nI_le h (by omega)) h9
    refine s_stack (pc := 21) C E hq (by omega) dX6_push_21 ?_
    refine x_aload_n (pc := 22) C 0 dX6_push_22 rfl ?_
    refine x_dup (pc := 23) C dX6_push_23 rfl ?_
    refine g_Rule_top (pc := 24) C E hq q24_19 dX6_push_24 ?_
    refine x_eq (show (mu (zput M q z) (23 + 5 * q) (z.1) x) (19 + 5 * q) 5 = nI z.1 from (by rw [mu_n _ _ _ _ (by omega)]; exact zput_top M q z)) ?_
    refine x_iconst (pc := 27) (v := 1) C dX6_push_27 rfl ?_
    refine x_iadd (pc := 28) C dX6_push_28 ?_
    refine x_eq (show (nI z.1) + 1 = nI (z.1 + 1) from nI_1 _) ?_
    refine p_Rule_top (pc := 29) C E hq q24_19 dX6_push_29 ?_
    exact x_vret (pc := 32) C X dX6_push_32 ⟨rfl, by unfold zpush; rw [if_pos (show z.1 < 32 from Nat.lt_of_not_le fun h => absurd (nI_le h (by omega)) h9), zput_put]⟩

set_option maxRecDepth 100000 in
set_option maxHeartbeats 4000000 in
theorem c_X6_turnTop (t : CT) (M : MM) {q : Nat} (hq : q < 7) {z : Nat × (Nat → Int32)} (hz : z.1 ≤ 32) (x : Int32) : XMet (wC t) yX6_turnTop cX6_turnTop 4 none 1 [.ref (t.1 (19 + 5 * q)), .int x] (zput M q z) (rU (zput M q (zturn z x))) := by
  refine x_met RX6 (by decide) rfl (Nat.le_of_ble_eq_true rfl) (fun κ C X E => ?_)
  refine x_L (L' := [(0, .ref (t.1 (19 + 5 * q))), (1, .int x)]) rfl ?_
  refine x_aload_n (pc := 0) C 0 dX6_turnTop_0 rfl ?_
  refine g_Rule_top (pc := 1) C E hq q24_19 dX6_turnTop_1 ?_
  refine x_eq (show (zput M q z) (19 + 5 * q) 5 = nI z.1 from (zput_top M q z)) ?_
  refine x_if_le (pc := 4) C 52 dX6_turnTop_4 (by decide) (fun h4 => ?_) (fun h4 => ?_)
  · exact x_vret (pc := 52) C X dX6_turnTop_52 ⟨rfl, by unfold zturn; rw [if_neg (show ¬ 0 < z.1 from fun h => absurd h4 (nI_nle h (by omega)))]⟩
  · have hp : 0 < z.1 := Nat.pos_of_ne_zero fun h => h4 (by rw [h]; decide)
    refine x_aload_n (pc := 7) C 0 dX6_turnTop_7 rfl ?_
    refine g_Rule_stack (pc := 8) C E hq q3_21 dX6_turnTop_8 ?_
    refine x_aload_n (pc := 11) C 0 dX6_turnTop_11 rfl ?_
    refine g_Rule_top (pc := 12) C E hq q24_19 dX6_turnTop_12 ?_
    refine x_eq (show (zput M q z) (19 + 5 * q) 5 = nI z.1 from (zput_top M q z)) ?_
    refine x_iconst (pc := 15) (v := 1) C dX6_turnTop_15 rfl ?_
    refine x_isub (pc := 16) C dX6_turnTop_16 ?_
    refine x_eq (show (nI z.1) - 1 = nI (z.1 - 1) from (pk_sub (b := 1) hp)) ?_
    refine l_stack (pc := 17) C E hq (by omega) dX6_turnTop_17 ?_
    refine x_eq (show (zput M q z) (23 + 5 * q) (z.1 - 1) = z.2 (z.1 - 1) from (zput_st M q z _)) ?_
    refine x_istore_n (pc := 18) (L' := [(2, .int (z.2 (z.1 - 1))), (0, .ref (t.1 (19 + 5 * q))), (1, .int x)]) C dX6_turnTop_18 (by decide) rfl ?_
    refine x_iload_n (pc := 19) C 0 dX6_turnTop_19 rfl ?_
    refine x_if_ne (pc := 20) C 27 dX6_turnTop_20 (by decide) (fun h20 => ?_) (fun h20 => ?_)
    · refine x_iconst (pc := 27) (v := 0) C dX6_turnTop_27 rfl ?_
      refine x_istore_n (pc := 28) (L' := [(3, .int 0), (2, .int (z.2 (z.1 - 1))), (0, .ref (t.1 (19 + 5 * q))), (1, .int x)]) C dX6_turnTop_28 (by decide) rfl ?_
      refine x_aload_n (pc := 29) C 2 dX6_turnTop_29 rfl ?_
      refine g_Rule_stack (pc := 30) C E hq q3_21 dX6_turnTop_30 ?_
      refine x_aload_n (pc := 33) C 2 dX6_turnTop_33 rfl ?_
      refine g_Rule_top (pc := 34) C E hq q24_19 dX6_turnTop_34 ?_
      refine x_eq (show (zput M q z) (19 + 5 * q) 5 = nI z.1 from (zput_top M q z)) ?_
      refine x_iconst (pc := 37) (v := 1) C dX6_turnTop_37 rfl ?_
      refine x_isub (pc := 38) C dX6_turnTop_38 ?_
      refine x_eq (show (nI z.1) - 1 = nI (z.1 - 1) from (pk_sub (b := 1) hp)) ?_
      refine x_iload_n (pc := 39) C 3 dX6_turnTop_39 rfl ?_
      refine x_bipush (pc := 40) (v := (-7)) C dX6_turnTop_40 rfl ?_
      refine x_icmp_ne (pc := 42) C 50 dX6_turnTop_42 (by decide) (fun h42 => ?_) (fun h42 => ?_)
      · refine x_iload_n (pc := 50) C 0 dX6_turnTop_50 rfl ?_
        refine s_stack (pc := 51) C E hq (by omega) dX6_turnTop_51 ?_
        exact x_vret (pc := 52) C X dX6_turnTop_52 ⟨rfl, by unfold zturn; rw [if_pos hp, zput_put1]; simp [h42, h20, b2i]⟩
      · refine x_iload_n (pc := 45) C 1 dX6_turnTop_45 rfl ?_
        refine x_ineg (pc := 46) C dX6_turnTop_46 ?_
        refine x_goto (pc := 47) C 51 dX6_turnTop_47 (by decide) ?_
        refine s_stack (pc := 51) C E hq (by omega) dX6_turnTop_51 ?_
        exact x_vret (pc := 52) C X dX6_turnTop_52 ⟨rfl, by unfold zturn; rw [if_pos hp, zput_put1]; simp [h42, h20, b2i]⟩
    · refine x_iconst (pc := 23) (v := 1) C dX6_turnTop_23 rfl ?_
      refine x_goto (pc := 24) C 28 dX6_turnTop_24 (by decide) ?_
      refine x_istore_n (pc := 28) (L' := [(3, .int 1), (2, .int (z.2 (z.1 - 1))), (0, .ref (t.1 (19 + 5 * q))), (1, .int x)]) C dX6_turnTop_28 (by decide) rfl ?_
      refine x_aload_n (pc := 29) C 2 dX6_turnTop_29 rfl ?_
      refine g_Rule_stack (pc := 30) C E hq q3_21 dX6_turnTop_30 ?_
      refine x_aload_n (pc := 33) C 2 dX6_turnTop_33 rfl ?_
      refine g_Rule_top (pc := 34) C E hq q24_19 dX6_turnTop_34 ?_
      refine x_eq (show (zput M q z) (19 + 5 * q) 5 = nI z.1 from (zput_top M q z)) ?_
      refine x_iconst (pc := 37) (v := 1) C dX6_turnTop_37 rfl ?_
      refine x_isub (pc := 38) C dX6_turnTop_38 ?_
      refine x_eq (show (nI z.1) - 1 = nI (z.1 - 1) from (pk_sub (b := 1) hp)) ?_
      refine x_iload_n (pc := 39) C 3 dX6_turnTop_39 rfl ?_
      refine x_bipush (pc := 40) (v := (-7)) C dX6_turnTop_40 rfl ?_
      refine x_icmp_ne (pc := 42) C 50 dX6_turnTop_42 (by decide) (fun h42 => ?_) (fun h42 => ?_)
      · refine x_iload_n (pc := 50) C 0 dX6_turnTop_50 rfl ?_
        refine s_stack (pc := 51) C E hq (by omega) dX6_turnTop_51 ?_
        exact x_vret (pc := 52) C X dX6_turnTop_52 ⟨rfl, by unfold zturn; rw [if_pos hp, zput_put1]; simp [h42, h20, b2i]⟩
      · refine x_iload_n (pc := 45) C 1 dX6_turnTop_45 rfl ?_
        refine x_ineg (pc := 46) C dX6_turnTop_46 ?_
        refine x_goto (pc := 47) C 51 dX6_turnTop_47 (by decide) ?_
        refine s_stack (pc := 51) C E hq (by omega) dX6_turnTop_51 ?_
        exact x_vret (pc := 52) C X dX6_turnTop_52 ⟨rfl, by unfold zturn; rw [if_pos hp, zput_put1]; simp [h42, h20, b2i]⟩

set_option maxRecDepth 100000 in
set_option maxHeartbeats 4000000 in
theorem c_X6_joinTwo (t : CT) (M : MM) {q : Nat} (hq : q < 7) {z : Nat × (Nat → Int32)} (hz : z.1 ≤ 32) (x : Int32) (hx : x < -8) : XMet (wC t) yX6_joinTwo cX6_joinTwo 5 none 1 [.ref (t.1 (19 + 5 * q)), .int x] (zput M q z) (rU (zput M q (zjoin z x))) := by
  refine x_met RX6 (by decide) rfl (Nat.le_of_ble_eq_true rfl) (fun κ C X E => ?_)
  refine x_L (L' := [(0, .ref (t.1 (19 + 5 * q))), (1, .int x)]) rfl ?_
  refine x_aload_n (pc := 0) C 0 dX6_joinTwo_0 rfl ?_
  refine g_Rule_top (pc := 1) C E hq q24_19 dX6_joinTwo_1 ?_
  refine x_eq (show (zput M q z) (19 + 5 * q) 5 = nI z.1 from (zput_top M q z)) ?_
  refine x_iconst (pc := 4) (v := 2) C dX6_joinTwo_4 rfl ?_
  refine x_eq (show 2 = nI 2 from rfl) ?_
  refine x_icmp_ge (pc := 5) C 9 dX6_joinTwo_5 (by decide) (fun h5 => ?_) (fun h5 => ?_)
  · have hp : 2 ≤ z.1 := (nI_leI (by decide) (by omega)).mp h5
    refine x_aload_n (pc := 9) C 0 dX6_joinTwo_9 rfl ?_
    refine g_Rule_stack (pc := 10) C E hq q3_21 dX6_joinTwo_10 ?_
    refine x_aload_n (pc := 13) C 0 dX6_joinTwo_13 rfl ?_
    refine g_Rule_top (pc := 14) C E hq q24_19 dX6_joinTwo_14 ?_
    refine x_eq (show (zput M q z) (19 + 5 * q) 5 = nI z.1 from (zput_top M q z)) ?_
    refine x_iconst (pc := 17) (v := 2) C dX6_joinTwo_17 rfl ?_
    refine x_isub (pc := 18) C dX6_joinTwo_18 ?_
    refine x_eq (show (nI z.1) - 2 = nI (z.1 - 2) from (pk_sub (b := 2) hp)) ?_
    refine l_stack (pc := 19) C E hq (by omega) dX6_joinTwo_19 ?_
    refine x_eq (show (zput M q z) (23 + 5 * q) (z.1 - 2) = z.2 (z.1 - 2) from (zput_st M q z _)) ?_
    refine x_istore_n (pc := 20) (L' := [(2, .int (z.2 (z.1 - 2))), (0, .ref (t.1 (19 + 5 * q))), (1, .int x)]) C dX6_joinTwo_20 (by decide) rfl ?_
    refine x_aload_n (pc := 21) C 1 dX6_joinTwo_21 rfl ?_
    refine g_Rule_stack (pc := 22) C E hq q3_21 dX6_joinTwo_22 ?_
    refine x_aload_n (pc := 25) C 1 dX6_joinTwo_25 rfl ?_
    refine g_Rule_top (pc := 26) C E hq q24_19 dX6_joinTwo_26 ?_
    refine x_eq (show (zput M q z) (19 + 5 * q) 5 = nI z.1 from (zput_top M q z)) ?_
    refine x_iconst (pc := 29) (v := 1) C dX6_joinTwo_29 rfl ?_
    refine x_isub (pc := 30) C dX6_joinTwo_30 ?_
    refine x_eq (show (nI z.1) - 1 = nI (z.1 - 1) from (pk_sub (b := 1) (by omega))) ?_
    refine l_stack (pc := 31) C E hq (by omega) dX6_joinTwo_31 ?_
    refine x_eq (show (zput M q z) (23 + 5 * q) (z.1 - 1) = z.2 (z.1 - 1) from (zput_st M q z _)) ?_
    refine x_istore_n (pc := 32) (L' := [(3, .int (z.2 (z.1 - 1))), (2, .int (z.2 (z.1 - 2))), (0, .ref (t.1 (19 + 5 * q))), (1, .int x)]) C dX6_joinTwo_32 (by decide) rfl ?_
    refine x_iload_n (pc := 33) C 3 dX6_joinTwo_33 rfl ?_
    by_cases s9 : x = -9
    · subst s9
      refine x_tableIn (pc := 34) (off := 38) C 72 dX6_joinTwo_34 (by decide) (by decide) (by decide) (by decide) ?_
      refine x_iload_n (pc := 72) C 1 dX6_joinTwo_72 rfl ?_
      refine x_iload_n (pc := 73) C 0 dX6_joinTwo_73 rfl ?_
      refine x_imul (pc := 74) C dX6_joinTwo_74 ?_
      refine x_istore (pc := 75) (L' := [(4, .int ((z.2 (z.1 - 2)) * (z.2 (z.1 - 1)))), (3, .int (z.2 (z.1 - 1))), (2, .int (z.2 (z.1 - 2))), (0, .ref (t.1 (19 + 5 * q))), (1, .int (-9))]) C dX6_joinTwo_75 (by decide) rfl ?_
      refine x_goto (pc := 77) C 159 dX6_joinTwo_77 (by decide) ?_
      refine x_aload_n (pc := 159) C 3 dX6_joinTwo_159 rfl ?_
      refine x_dup (pc := 160) C dX6_joinTwo_160 rfl ?_
      refine g_Rule_top (pc := 161) C E hq q24_19 dX6_joinTwo_161 ?_
      refine x_eq (show (zput M q z) (19 + 5 * q) 5 = nI z.1 from (zput_top M q z)) ?_
      refine x_iconst (pc := 164) (v := 1) C dX6_joinTwo_164 rfl ?_
      refine x_isub (pc := 165) C dX6_joinTwo_165 ?_
      refine x_eq (show (nI z.1) - 1 = nI (z.1 - 1) from (pk_sub (b := 1) (by omega))) ?_
      refine p_Rule_top (pc := 166) C E hq q24_19 dX6_joinTwo_166 ?_
      refine x_aload_n (pc := 169) C 3 dX6_joinTwo_169 rfl ?_
      refine g_Rule_stack (pc := 170) C E hq q3_21 dX6_joinTwo_170 ?_
      refine x_aload_n (pc := 173) C 3 dX6_joinTwo_173 rfl ?_
      refine g_Rule_top (pc := 174) C E hq q24_19 dX6_joinTwo_174 ?_
      refine x_eq (show (mu (zput M q z) (19 + 5 * q) 5 (nI (z.1 - 1))) (19 + 5 * q) 5 = nI (z.1 - 1) from (mu_s _ _ _ _)) ?_
      refine x_iconst (pc := 177) (v := 1) C dX6_joinTwo_177 rfl ?_
      refine x_isub (pc := 178) C dX6_joinTwo_178 ?_
      refine x_eq (show (nI (z.1 - 1)) - 1 = nI (z.1 - 1 - 1) from (pk_sub (b := 1) (by omega))) ?_
      refine x_iload (pc := 179) C 0 dX6_joinTwo_179 rfl ?_
      refine s_stack (pc := 181) C E hq (by omega) dX6_joinTwo_181 ?_
      exact x_vret (pc := 182) C X dX6_joinTwo_182 ⟨rfl, by rw [zput_put2]; unfold zjoin zop; rw [if_pos hp, show z.1 - 1 - 1 = z.1 - 2 by omega]; first | (simp [*, b2i]; done) | (simp [*, b2i, Int32.not_lt.mpr h98]; done) | (simp [*, b2i, Int32.not_le.mp h98]; done)⟩
    by_cases s10 : x = -10
    · subst s10
      refine x_tableIn (pc := 34) (off := 46) C 80 dX6_joinTwo_34 (by decide) (by decide) (by decide) (by decide) ?_
      refine x_iload_n (pc := 80) C 1 dX6_joinTwo_80 rfl ?_
      refine x_iload_n (pc := 81) C 0 dX6_joinTwo_81 rfl ?_
      refine x_iadd (pc := 82) C dX6_joinTwo_82 ?_
      refine x_istore (pc := 83) (L' := [(4, .int ((z.2 (z.1 - 2)) + (z.2 (z.1 - 1)))), (3, .int (z.2 (z.1 - 1))), (2, .int (z.2 (z.1 - 2))), (0, .ref (t.1 (19 + 5 * q))), (1, .int (-10))]) C dX6_joinTwo_83 (by decide) rfl ?_
      refine x_goto (pc := 85) C 159 dX6_joinTwo_85 (by decide) ?_
      refine x_aload_n (pc := 159) C 3 dX6_joinTwo_159 rfl ?_
      refine x_dup (pc := 160) C dX6_joinTwo_160 rfl ?_
      refine g_Rule_top (pc := 161) C E hq q24_19 dX6_joinTwo_161 ?_
      refine x_eq (show (zput M q z) (19 + 5 * q) 5 = nI z.1 from (zput_top M q z)) ?_
      refine x_iconst (pc := 164) (v := 1) C dX6_joinTwo_164 rfl ?_
      refine x_isub (pc := 165) C dX6_joinTwo_165 ?_
      refine x_eq (show (nI z.1) - 1 = nI (z.1 - 1) from (pk_sub (b := 1) (by omega))) ?_
      refine p_Rule_top (pc := 166) C E hq q24_19 dX6_joinTwo_166 ?_
      refine x_aload_n (pc := 169) C 3 dX6_joinTwo_169 rfl ?_
      refine g_Rule_stack (pc := 170) C E hq q3_21 dX6_joinTwo_170 ?_
      refine x_aload_n (pc := 173) C 3 dX6_joinTwo_173 rfl ?_
      refine g_Rule_top (pc := 174) C E hq q24_19 dX6_joinTwo_174 ?_
      refine x_eq (show (mu (zput M q z) (19 + 5 * q) 5 (nI (z.1 - 1))) (19 + 5 * q) 5 = nI (z.1 - 1) from (mu_s _ _ _ _)) ?_
      refine x_iconst (pc := 177) (v := 1) C dX6_joinTwo_177 rfl ?_
      refine x_isub (pc := 178) C dX6_joinTwo_178 ?_
      refine x_eq (show (nI (z.1 - 1)) - 1 = nI (z.1 - 1 - 1) from (pk_sub (b := 1) (by omega))) ?_
      refine x_iload (pc := 179) C 0 dX6_joinTwo_179 rfl ?_
      refine s_stack (pc := 181) C E hq (by omega) dX6_joinTwo_181 ?_
      exact x_vret (pc := 182) C X dX6_joinTwo_182 ⟨rfl, by rw [zput_put2]; unfold zjoin zop; rw [if_pos hp, show z.1 - 1 - 1 = z.1 - 2 by omega]; first | (simp [*, b2i]; done) | (simp [*, b2i, Int32.not_lt.mpr h98]; done) | (simp [*, b2i, Int32.not_le.mp h98]; done)⟩
    by_cases s11 : x = -11
    · subst s11
      refine x_tableIn (pc := 34) (off := 54) C 88 dX6_joinTwo_34 (by decide) (by decide) (by decide) (by decide) ?_
      refine x_iload_n (pc := 88) C 1 dX6_joinTwo_88 rfl ?_
      refine x_iload_n (pc := 89) C 0 dX6_joinTwo_89 rfl ?_
      refine x_isub (pc := 90) C dX6_joinTwo_90 ?_
      refine x_istore (pc := 91) (L' := [(4, .int ((z.2 (z.1 - 2)) - (z.2 (z.1 - 1)))), (3, .int (z.2 (z.1 - 1))), (2, .int (z.2 (z.1 - 2))), (0, .ref (t.1 (19 + 5 * q))), (1, .int (-11))]) C dX6_joinTwo_91 (by decide) rfl ?_
      refine x_goto (pc := 93) C 159 dX6_joinTwo_93 (by decide) ?_
      refine x_aload_n (pc := 159) C 3 dX6_joinTwo_159 rfl ?_
      refine x_dup (pc := 160) C dX6_joinTwo_160 rfl ?_
      refine g_Rule_top (pc := 161) C E hq q24_19 dX6_joinTwo_161 ?_
      refine x_eq (show (zput M q z) (19 + 5 * q) 5 = nI z.1 from (zput_top M q z)) ?_
      refine x_iconst (pc := 164) (v := 1) C dX6_joinTwo_164 rfl ?_
      refine x_isub (pc := 165) C dX6_joinTwo_165 ?_
      refine x_eq (show (nI z.1) - 1 = nI (z.1 - 1) from (pk_sub (b := 1) (by omega))) ?_
      refine p_Rule_top (pc := 166) C E hq q24_19 dX6_joinTwo_166 ?_
      refine x_aload_n (pc := 169) C 3 dX6_joinTwo_169 rfl ?_
      refine g_Rule_stack (pc := 170) C E hq q3_21 dX6_joinTwo_170 ?_
      refine x_aload_n (pc := 173) C 3 dX6_joinTwo_173 rfl ?_
      refine g_Rule_top (pc := 174) C E hq q24_19 dX6_joinTwo_174 ?_
      refine x_eq (show (mu (zput M q z) (19 + 5 * q) 5 (nI (z.1 - 1))) (19 + 5 * q) 5 = nI (z.1 - 1) from (mu_s _ _ _ _)) ?_
      refine x_iconst (pc := 177) (v := 1) C dX6_joinTwo_177 rfl ?_
      refine x_isub (pc := 178) C dX6_joinTwo_178 ?_
      refine x_eq (show (nI (z.1 - 1)) - 1 = nI (z.1 - 1 - 1) from (pk_sub (b := 1) (by omega))) ?_
      refine x_iload (pc := 179) C 0 dX6_joinTwo_179 rfl ?_
      refine s_stack (pc := 181) C E hq (by omega) dX6_joinTwo_181 ?_
      exact x_vret (pc := 182) C X dX6_joinTwo_182 ⟨rfl, by rw [zput_put2]; unfold zjoin zop; rw [if_pos hp, show z.1 - 1 - 1 = z.1 - 2 by omega]; first | (simp [*, b2i]; done) | (simp [*, b2i, Int32.not_lt.mpr h98]; done) | (simp [*, b2i, Int32.not_le.mp h98]; done)⟩
    by_cases s12 : x = -12
    · subst s12
      refine x_tableIn (pc := 34) (off := 62) C 96 dX6_joinTwo_34 (by decide) (by decide) (by decide) (by decide) ?_
      refine x_iload_n (pc := 96) C 1 dX6_joinTwo_96 rfl ?_
      refine x_iload_n (pc := 97) C 0 dX6_joinTwo_97 rfl ?_
      refine x_icmp_ge (pc := 98) C 105 dX6_joinTwo_98 (by decide) (fun h98 => ?_) (fun h98 => ?_)
      · refine x_iconst (pc := 105) (v := 0) C dX6_joinTwo_105 rfl ?_
        refine x_istore (pc := 106) (L' := [(4, .int 0), (3, .int (z.2 (z.1 - 1))), (2, .int (z.2 (z.1 - 2))), (0, .ref (t.1 (19 + 5 * q))), (1, .int (-12))]) C dX6_joinTwo_106 (by decide) rfl ?_
        refine x_goto (pc := 108) C 159 dX6_joinTwo_108 (by decide) ?_
        refine x_aload_n (pc := 159) C 3 dX6_joinTwo_159 rfl ?_
        refine x_dup (pc := 160) C dX6_joinTwo_160 rfl ?_
        refine g_Rule_top (pc := 161) C E hq q24_19 dX6_joinTwo_161 ?_
        refine x_eq (show (zput M q z) (19 + 5 * q) 5 = nI z.1 from (zput_top M q z)) ?_
        refine x_iconst (pc := 164) (v := 1) C dX6_joinTwo_164 rfl ?_
        refine x_isub (pc := 165) C dX6_joinTwo_165 ?_
        refine x_eq (show (nI z.1) - 1 = nI (z.1 - 1) from (pk_sub (b := 1) (by omega))) ?_
        refine p_Rule_top (pc := 166) C E hq q24_19 dX6_joinTwo_166 ?_
        refine x_aload_n (pc := 169) C 3 dX6_joinTwo_169 rfl ?_
        refine g_Rule_stack (pc := 170) C E hq q3_21 dX6_joinTwo_170 ?_
        refine x_aload_n (pc := 173) C 3 dX6_joinTwo_173 rfl ?_
        refine g_Rule_top (pc := 174) C E hq q24_19 dX6_joinTwo_174 ?_
        refine x_eq (show (mu (zput M q z) (19 + 5 * q) 5 (nI (z.1 - 1))) (19 + 5 * q) 5 = nI (z.1 - 1) from (mu_s _ _ _ _)) ?_
        refine x_iconst (pc := 177) (v := 1) C dX6_joinTwo_177 rfl ?_
        refine x_isub (pc := 178) C dX6_joinTwo_178 ?_
        refine x_eq (show (nI (z.1 - 1)) - 1 = nI (z.1 - 1 - 1) from (pk_sub (b := 1) (by omega))) ?_
        refine x_iload (pc := 179) C 0 dX6_joinTwo_179 rfl ?_
        refine s_stack (pc := 181) C E hq (by omega) dX6_joinTwo_181 ?_
        exact x_vret (pc := 182) C X dX6_joinTwo_182 ⟨rfl, by rw [zput_put2]; unfold zjoin zop; rw [if_pos hp, show z.1 - 1 - 1 = z.1 - 2 by omega]; first | (simp [*, b2i]; done) | (simp [*, b2i, Int32.not_lt.mpr h98]; done) | (simp [*, b2i, Int32.not_le.mp h98]; done)⟩
      · refine x_iconst (pc := 101) (v := 1) C dX6_joinTwo_101 rfl ?_
        refine x_goto (pc := 102) C 106 dX6_joinTwo_102 (by decide) ?_
        refine x_istore (pc := 106) (L' := [(4, .int 1), (3, .int (z.2 (z.1 - 1))), (2, .int (z.2 (z.1 - 2))), (0, .ref (t.1 (19 + 5 * q))), (1, .int (-12))]) C dX6_joinTwo_106 (by decide) rfl ?_
        refine x_goto (pc := 108) C 159 dX6_joinTwo_108 (by decide) ?_
        refine x_aload_n (pc := 159) C 3 dX6_joinTwo_159 rfl ?_
        refine x_dup (pc := 160) C dX6_joinTwo_160 rfl ?_
        refine g_Rule_top (pc := 161) C E hq q24_19 dX6_joinTwo_161 ?_
        refine x_eq (show (zput M q z) (19 + 5 * q) 5 = nI z.1 from (zput_top M q z)) ?_
        refine x_iconst (pc := 164) (v := 1) C dX6_joinTwo_164 rfl ?_
        refine x_isub (pc := 165) C dX6_joinTwo_165 ?_
        refine x_eq (show (nI z.1) - 1 = nI (z.1 - 1) from (pk_sub (b := 1) (by omega))) ?_
        refine p_Rule_top (pc := 166) C E hq q24_19 dX6_joinTwo_166 ?_
        refine x_aload_n (pc := 169) C 3 dX6_joinTwo_169 rfl ?_
        refine g_Rule_stack (pc := 170) C E hq q3_21 dX6_joinTwo_170 ?_
        refine x_aload_n (pc := 173) C 3 dX6_joinTwo_173 rfl ?_
        refine g_Rule_top (pc := 174) C E hq q24_19 dX6_joinTwo_174 ?_
        refine x_eq (show (mu (zput M q z) (19 + 5 * q) 5 (nI (z.1 - 1))) (19 + 5 * q) 5 = nI (z.1 - 1) from (mu_s _ _ _ _)) ?_
        refine x_iconst (pc := 177) (v := 1) C dX6_joinTwo_177 rfl ?_
        refine x_isub (pc := 178) C dX6_joinTwo_178 ?_
        refine x_eq (show (nI (z.1 - 1)) - 1 = nI (z.1 - 1 - 1) from (pk_sub (b := 1) (by omega))) ?_
        refine x_iload (pc := 179) C 0 dX6_joinTwo_179 rfl ?_
        refine s_stack (pc := 181) C E hq (by omega) dX6_joinTwo_181 ?_
        exact x_vret (pc := 182) C X dX6_joinTwo_182 ⟨rfl, by rw [zput_put2]; unfold zjoin zop; rw [if_pos hp, show z.1 - 1 - 1 = z.1 - 2 by omega]; first | (simp [*, b2i]; done) | (simp [*, b2i, Int32.not_lt.mpr h98]; done) | (simp [*, b2i, Int32.not_le.mp h98]; done)⟩
    by_cases s13 : x = -13
    · subst s13
      refine x_tableIn (pc := 34) (off := 77) C 111 dX6_joinTwo_34 (by decide) (by decide) (by decide) (by decide) ?_
      refine x_iload_n (pc := 111) C 1 dX6_joinTwo_111 rfl ?_
      refine x_iload_n (pc := 112) C 0 dX6_joinTwo_112 rfl ?_
      refine x_icmp_ne (pc := 113) C 120 dX6_joinTwo_113 (by decide) (fun h113 => ?_) (fun h113 => ?_)
      · refine x_iconst (pc := 120) (v := 0) C dX6_joinTwo_120 rfl ?_
        refine x_istore (pc := 121) (L' := [(4, .int 0), (3, .int (z.2 (z.1 - 1))), (2, .int (z.2 (z.1 - 2))), (0, .ref (t.1 (19 + 5 * q))), (1, .int (-13))]) C dX6_joinTwo_121 (by decide) rfl ?_
        refine x_goto (pc := 123) C 159 dX6_joinTwo_123 (by decide) ?_
        refine x_aload_n (pc := 159) C 3 dX6_joinTwo_159 rfl ?_
        refine x_dup (pc := 160) C dX6_joinTwo_160 rfl ?_
        refine g_Rule_top (pc := 161) C E hq q24_19 dX6_joinTwo_161 ?_
        refine x_eq (show (zput M q z) (19 + 5 * q) 5 = nI z.1 from (zput_top M q z)) ?_
        refine x_iconst (pc := 164) (v := 1) C dX6_joinTwo_164 rfl ?_
        refine x_isub (pc := 165) C dX6_joinTwo_165 ?_
        refine x_eq (show (nI z.1) - 1 = nI (z.1 - 1) from (pk_sub (b := 1) (by omega))) ?_
        refine p_Rule_top (pc := 166) C E hq q24_19 dX6_joinTwo_166 ?_
        refine x_aload_n (pc := 169) C 3 dX6_joinTwo_169 rfl ?_
        refine g_Rule_stack (pc := 170) C E hq q3_21 dX6_joinTwo_170 ?_
        refine x_aload_n (pc := 173) C 3 dX6_joinTwo_173 rfl ?_
        refine g_Rule_top (pc := 174) C E hq q24_19 dX6_joinTwo_174 ?_
        refine x_eq (show (mu (zput M q z) (19 + 5 * q) 5 (nI (z.1 - 1))) (19 + 5 * q) 5 = nI (z.1 - 1) from (mu_s _ _ _ _)) ?_
        refine x_iconst (pc := 177) (v := 1) C dX6_joinTwo_177 rfl ?_
        refine x_isub (pc := 178) C dX6_joinTwo_178 ?_
        refine x_eq (show (nI (z.1 - 1)) - 1 = nI (z.1 - 1 - 1) from (pk_sub (b := 1) (by omega))) ?_
        refine x_iload (pc := 179) C 0 dX6_joinTwo_179 rfl ?_
        refine s_stack (pc := 181) C E hq (by omega) dX6_joinTwo_181 ?_
        exact x_vret (pc := 182) C X dX6_joinTwo_182 ⟨rfl, by rw [zput_put2]; unfold zjoin zop; rw [if_pos hp, show z.1 - 1 - 1 = z.1 - 2 by omega]; first | (simp [*, b2i]; done) | (simp [*, b2i, Int32.not_lt.mpr h98]; done) | (simp [*, b2i, Int32.not_le.mp h98]; done)⟩
      · refine x_iconst (pc := 116) (v := 1) C dX6_joinTwo_116 rfl ?_
        refine x_goto (pc := 117) C 121 dX6_joinTwo_117 (by decide) ?_
        refine x_istore (pc := 121) (L' := [(4, .int 1), (3, .int (z.2 (z.1 - 1))), (2, .int (z.2 (z.1 - 2))), (0, .ref (t.1 (19 + 5 * q))), (1, .int (-13))]) C dX6_joinTwo_121 (by decide) rfl ?_
        refine x_goto (pc := 123) C 159 dX6_joinTwo_123 (by decide) ?_
        refine x_aload_n (pc := 159) C 3 dX6_joinTwo_159 rfl ?_
        refine x_dup (pc := 160) C dX6_joinTwo_160 rfl ?_
        refine g_Rule_top (pc := 161) C E hq q24_19 dX6_joinTwo_161 ?_
        refine x_eq (show (zput M q z) (19 + 5 * q) 5 = nI z.1 from (zput_top M q z)) ?_
        refine x_iconst (pc := 164) (v := 1) C dX6_joinTwo_164 rfl ?_
        refine x_isub (pc := 165) C dX6_joinTwo_165 ?_
        refine x_eq (show (nI z.1) - 1 = nI (z.1 - 1) from (pk_sub (b := 1) (by omega))) ?_
        refine p_Rule_top (pc := 166) C E hq q24_19 dX6_joinTwo_166 ?_
        refine x_aload_n (pc := 169) C 3 dX6_joinTwo_169 rfl ?_
        refine g_Rule_stack (pc := 170) C E hq q3_21 dX6_joinTwo_170 ?_
        refine x_aload_n (pc := 173) C 3 dX6_joinTwo_173 rfl ?_
        refine g_Rule_top (pc := 174) C E hq q24_19 dX6_joinTwo_174 ?_
        refine x_eq (show (mu (zput M q z) (19 + 5 * q) 5 (nI (z.1 - 1))) (19 + 5 * q) 5 = nI (z.1 - 1) from (mu_s _ _ _ _)) ?_
        refine x_iconst (pc := 177) (v := 1) C dX6_joinTwo_177 rfl ?_
        refine x_isub (pc := 178) C dX6_joinTwo_178 ?_
        refine x_eq (show (nI (z.1 - 1)) - 1 = nI (z.1 - 1 - 1) from (pk_sub (b := 1) (by omega))) ?_
        refine x_iload (pc := 179) C 0 dX6_joinTwo_179 rfl ?_
        refine s_stack (pc := 181) C E hq (by omega) dX6_joinTwo_181 ?_
        exact x_vret (pc := 182) C X dX6_joinTwo_182 ⟨rfl, by rw [zput_put2]; unfold zjoin zop; rw [if_pos hp, show z.1 - 1 - 1 = z.1 - 2 by omega]; first | (simp [*, b2i]; done) | (simp [*, b2i, Int32.not_lt.mpr h98]; done) | (simp [*, b2i, Int32.not_le.mp h98]; done)⟩
    by_cases s14 : x = -14
    · subst s14
      refine x_tableIn (pc := 34) (off := 92) C 126 dX6_joinTwo_34 (by decide) (by decide) (by decide) (by decide) ?_
      refine x_iload_n (pc := 126) C 1 dX6_joinTwo_126 rfl ?_
      refine x_if_eq (pc := 127) C 138 dX6_joinTwo_127 (by decide) (fun h127 => ?_) (fun h127 => ?_)
      · refine x_iconst (pc := 138) (v := 0) C dX6_joinTwo_138 rfl ?_
        refine x_istore (pc := 139) (L' := [(4, .int 0), (3, .int (z.2 (z.1 - 1))), (2, .int (z.2 (z.1 - 2))), (0, .ref (t.1 (19 + 5 * q))), (1, .int (-14))]) C dX6_joinTwo_139 (by decide) rfl ?_
        refine x_goto (pc := 141) C 159 dX6_joinTwo_141 (by decide) ?_
        refine x_aload_n (pc := 159) C 3 dX6_joinTwo_159 rfl ?_
        refine x_dup (pc := 160) C dX6_joinTwo_160 rfl ?_
        refine g_Rule_top (pc := 161) C E hq q24_19 dX6_joinTwo_161 ?_
        refine x_eq (show (zput M q z) (19 + 5 * q) 5 = nI z.1 from (zput_top M q z)) ?_
        refine x_iconst (pc := 164) (v := 1) C dX6_joinTwo_164 rfl ?_
        refine x_isub (pc := 165) C dX6_joinTwo_165 ?_
        refine x_eq (show (nI z.1) - 1 = nI (z.1 - 1) from (pk_sub (b := 1) (by omega))) ?_
        refine p_Rule_top (pc := 166) C E hq q24_19 dX6_joinTwo_166 ?_
        refine x_aload_n (pc := 169) C 3 dX6_joinTwo_169 rfl ?_
        refine g_Rule_stack (pc := 170) C E hq q3_21 dX6_joinTwo_170 ?_
        refine x_aload_n (pc := 173) C 3 dX6_joinTwo_173 rfl ?_
        refine g_Rule_top (pc := 174) C E hq q24_19 dX6_joinTwo_174 ?_
        refine x_eq (show (mu (zput M q z) (19 + 5 * q) 5 (nI (z.1 - 1))) (19 + 5 * q) 5 = nI (z.1 - 1) from (mu_s _ _ _ _)) ?_
        refine x_iconst (pc := 177) (v := 1) C dX6_joinTwo_177 rfl ?_
        refine x_isub (pc := 178) C dX6_joinTwo_178 ?_
        refine x_eq (show (nI (z.1 - 1)) - 1 = nI (z.1 - 1 - 1) from (pk_sub (b := 1) (by omega))) ?_
        refine x_iload (pc := 179) C 0 dX6_joinTwo_179 rfl ?_
        refine s_stack (pc := 181) C E hq (by omega) dX6_joinTwo_181 ?_
        exact x_vret (pc := 182) C X dX6_joinTwo_182 ⟨rfl, by rw [zput_put2]; unfold zjoin zop; rw [if_pos hp, show z.1 - 1 - 1 = z.1 - 2 by omega]; first | (simp [*, b2i]; done) | (simp [*, b2i, Int32.not_lt.mpr h98]; done) | (simp [*, b2i, Int32.not_le.mp h98]; done)⟩
      · refine x_iload_n (pc := 130) C 0 dX6_joinTwo_130 rfl ?_
        refine x_if_eq (pc := 131) C 138 dX6_joinTwo_131 (by decide) (fun h131 => ?_) (fun h131 => ?_)
        · refine x_iconst (pc := 138) (v := 0) C dX6_joinTwo_138 rfl ?_
          refine x_istore (pc := 139) (L' := [(4, .int 0), (3, .int (z.2 (z.1 - 1))), (2, .int (z.2 (z.1 - 2))), (0, .ref (t.1 (19 + 5 * q))), (1, .int (-14))]) C dX6_joinTwo_139 (by decide) rfl ?_
          refine x_goto (pc := 141) C 159 dX6_joinTwo_141 (by decide) ?_
          refine x_aload_n (pc := 159) C 3 dX6_joinTwo_159 rfl ?_
          refine x_dup (pc := 160) C dX6_joinTwo_160 rfl ?_
          refine g_Rule_top (pc := 161) C E hq q24_19 dX6_joinTwo_161 ?_
          refine x_eq (show (zput M q z) (19 + 5 * q) 5 = nI z.1 from (zput_top M q z)) ?_
          refine x_iconst (pc := 164) (v := 1) C dX6_joinTwo_164 rfl ?_
          refine x_isub (pc := 165) C dX6_joinTwo_165 ?_
          refine x_eq (show (nI z.1) - 1 = nI (z.1 - 1) from (pk_sub (b := 1) (by omega))) ?_
          refine p_Rule_top (pc := 166) C E hq q24_19 dX6_joinTwo_166 ?_
          refine x_aload_n (pc := 169) C 3 dX6_joinTwo_169 rfl ?_
          refine g_Rule_stack (pc := 170) C E hq q3_21 dX6_joinTwo_170 ?_
          refine x_aload_n (pc := 173) C 3 dX6_joinTwo_173 rfl ?_
          refine g_Rule_top (pc := 174) C E hq q24_19 dX6_joinTwo_174 ?_
          refine x_eq (show (mu (zput M q z) (19 + 5 * q) 5 (nI (z.1 - 1))) (19 + 5 * q) 5 = nI (z.1 - 1) from (mu_s _ _ _ _)) ?_
          refine x_iconst (pc := 177) (v := 1) C dX6_joinTwo_177 rfl ?_
          refine x_isub (pc := 178) C dX6_joinTwo_178 ?_
          refine x_eq (show (nI (z.1 - 1)) - 1 = nI (z.1 - 1 - 1) from (pk_sub (b := 1) (by omega))) ?_
          refine x_iload (pc := 179) C 0 dX6_joinTwo_179 rfl ?_
          refine s_stack (pc := 181) C E hq (by omega) dX6_joinTwo_181 ?_
          exact x_vret (pc := 182) C X dX6_joinTwo_182 ⟨rfl, by rw [zput_put2]; unfold zjoin zop; rw [if_pos hp, show z.1 - 1 - 1 = z.1 - 2 by omega]; first | (simp [*, b2i]; done) | (simp [*, b2i, Int32.not_lt.mpr h98]; done) | (simp [*, b2i, Int32.not_le.mp h98]; done)⟩
        · refine x_iconst (pc := 134) (v := 1) C dX6_joinTwo_134 rfl ?_
          refine x_goto (pc := 135) C 139 dX6_joinTwo_135 (by decide) ?_
          refine x_istore (pc := 139) (L' := [(4, .int 1), (3, .int (z.2 (z.1 - 1))), (2, .int (z.2 (z.1 - 2))), (0, .ref (t.1 (19 + 5 * q))), (1, .int (-14))]) C dX6_joinTwo_139 (by decide) rfl ?_
          refine x_goto (pc := 141) C 159 dX6_joinTwo_141 (by decide) ?_
          refine x_aload_n (pc := 159) C 3 dX6_joinTwo_159 rfl ?_
          refine x_dup (pc := 160) C dX6_joinTwo_160 rfl ?_
          refine g_Rule_top (pc := 161) C E hq q24_19 dX6_joinTwo_161 ?_
          refine x_eq (show (zput M q z) (19 + 5 * q) 5 = nI z.1 from (zput_top M q z)) ?_
          refine x_iconst (pc := 164) (v := 1) C dX6_joinTwo_164 rfl ?_
          refine x_isub (pc := 165) C dX6_joinTwo_165 ?_
          refine x_eq (show (nI z.1) - 1 = nI (z.1 - 1) from (pk_sub (b := 1) (by omega))) ?_
          refine p_Rule_top (pc := 166) C E hq q24_19 dX6_joinTwo_166 ?_
          refine x_aload_n (pc := 169) C 3 dX6_joinTwo_169 rfl ?_
          refine g_Rule_stack (pc := 170) C E hq q3_21 dX6_joinTwo_170 ?_
          refine x_aload_n (pc := 173) C 3 dX6_joinTwo_173 rfl ?_
          refine g_Rule_top (pc := 174) C E hq q24_19 dX6_joinTwo_174 ?_
          refine x_eq (show (mu (zput M q z) (19 + 5 * q) 5 (nI (z.1 - 1))) (19 + 5 * q) 5 = nI (z.1 - 1) from (mu_s _ _ _ _)) ?_
          refine x_iconst (pc := 177) (v := 1) C dX6_joinTwo_177 rfl ?_
          refine x_isub (pc := 178) C dX6_joinTwo_178 ?_
          refine x_eq (show (nI (z.1 - 1)) - 1 = nI (z.1 - 1 - 1) from (pk_sub (b := 1) (by omega))) ?_
          refine x_iload (pc := 179) C 0 dX6_joinTwo_179 rfl ?_
          refine s_stack (pc := 181) C E hq (by omega) dX6_joinTwo_181 ?_
          exact x_vret (pc := 182) C X dX6_joinTwo_182 ⟨rfl, by rw [zput_put2]; unfold zjoin zop; rw [if_pos hp, show z.1 - 1 - 1 = z.1 - 2 by omega]; first | (simp [*, b2i]; done) | (simp [*, b2i, Int32.not_lt.mpr h98]; done) | (simp [*, b2i, Int32.not_le.mp h98]; done)⟩
    refine x_tableOut (pc := 34) C 144 dX6_joinTwo_34 (Or.inl (by simp [i_eq, i_lt] at *; omega)) (by decide) ?_
    refine x_iload_n (pc := 144) C 1 dX6_joinTwo_144 rfl ?_
    refine x_if_ne (pc := 145) C 152 dX6_joinTwo_145 (by decide) (fun h145 => ?_) (fun h145 => ?_)
    · refine x_iconst (pc := 152) (v := 1) C dX6_joinTwo_152 rfl ?_
      refine x_goto (pc := 153) C 157 dX6_joinTwo_153 (by decide) ?_
      refine x_istore (pc := 157) (L' := [(4, .int 1), (3, .int (z.2 (z.1 - 1))), (2, .int (z.2 (z.1 - 2))), (0, .ref (t.1 (19 + 5 * q))), (1, .int x)]) C dX6_joinTwo_157 (by decide) rfl ?_
      refine x_aload_n (pc := 159) C 3 dX6_joinTwo_159 rfl ?_
      refine x_dup (pc := 160) C dX6_joinTwo_160 rfl ?_
      refine g_Rule_top (pc := 161) C E hq q24_19 dX6_joinTwo_161 ?_
      refine x_eq (show (zput M q z) (19 + 5 * q) 5 = nI z.1 from (zput_top M q z)) ?_
      refine x_iconst (pc := 164) (v := 1) C dX6_joinTwo_164 rfl ?_
      refine x_isub (pc := 165) C dX6_joinTwo_165 ?_
      refine x_eq (show (nI z.1) - 1 = nI (z.1 - 1) from (pk_sub (b := 1) (by omega))) ?_
      refine p_Rule_top (pc := 166) C E hq q24_19 dX6_joinTwo_166 ?_
      refine x_aload_n (pc := 169) C 3 dX6_joinTwo_169 rfl ?_
      refine g_Rule_stack (pc := 170) C E hq q3_21 dX6_joinTwo_170 ?_
      refine x_aload_n (pc := 173) C 3 dX6_joinTwo_173 rfl ?_
      refine g_Rule_top (pc := 174) C E hq q24_19 dX6_joinTwo_174 ?_
      refine x_eq (show (mu (zput M q z) (19 + 5 * q) 5 (nI (z.1 - 1))) (19 + 5 * q) 5 = nI (z.1 - 1) from (mu_s _ _ _ _)) ?_
      refine x_iconst (pc := 177) (v := 1) C dX6_joinTwo_177 rfl ?_
      refine x_isub (pc := 178) C dX6_joinTwo_178 ?_
      refine x_eq (show (nI (z.1 - 1)) - 1 = nI (z.1 - 1 - 1) from (pk_sub (b := 1) (by omega))) ?_
      refine x_iload (pc := 179) C 0 dX6_joinTwo_179 rfl ?_
      refine s_stack (pc := 181) C E hq (by omega) dX6_joinTwo_181 ?_
      exact x_vret (pc := 182) C X dX6_joinTwo_182 ⟨rfl, by rw [zput_put2]; unfold zjoin zop; rw [if_pos hp, show z.1 - 1 - 1 = z.1 - 2 by omega]; first | (simp [*, b2i]; done) | (simp [*, b2i, Int32.not_lt.mpr h98]; done) | (simp [*, b2i, Int32.not_le.mp h98]; done)⟩
    · refine x_iload_n (pc := 148) C 0 dX6_joinTwo_148 rfl ?_
      refine x_if_eq (pc := 149) C 156 dX6_joinTwo_149 (by decide) (fun h149 => ?_) (fun h149 => ?_)
      · refine x_iconst (pc := 156) (v := 0) C dX6_joinTwo_156 rfl ?_
        refine x_istore (pc := 157) (L' := [(4, .int 0), (3, .int (z.2 (z.1 - 1))), (2, .int (z.2 (z.1 - 2))), (0, .ref (t.1 (19 + 5 * q))), (1, .int x)]) C dX6_joinTwo_157 (by decide) rfl ?_
        refine x_aload_n (pc := 159) C 3 dX6_joinTwo_159 rfl ?_
        refine x_dup (pc := 160) C dX6_joinTwo_160 rfl ?_
        refine g_Rule_top (pc := 161) C E hq q24_19 dX6_joinTwo_161 ?_
        refine x_eq (show (zput M q z) (19 + 5 * q) 5 = nI z.1 from (zput_top M q z)) ?_
        refine x_iconst (pc := 164) (v := 1) C dX6_joinTwo_164 rfl ?_
        refine x_isub (pc := 165) C dX6_joinTwo_165 ?_
        refine x_eq (show (nI z.1) - 1 = nI (z.1 - 1) from (pk_sub (b := 1) (by omega))) ?_
        refine p_Rule_top (pc := 166) C E hq q24_19 dX6_joinTwo_166 ?_
        refine x_aload_n (pc := 169) C 3 dX6_joinTwo_169 rfl ?_
        refine g_Rule_stack (pc := 170) C E hq q3_21 dX6_joinTwo_170 ?_
        refine x_aload_n (pc := 173) C 3 dX6_joinTwo_173 rfl ?_
        refine g_Rule_top (pc := 174) C E hq q24_19 dX6_joinTwo_174 ?_
        refine x_eq (show (mu (zput M q z) (19 + 5 * q) 5 (nI (z.1 - 1))) (19 + 5 * q) 5 = nI (z.1 - 1) from (mu_s _ _ _ _)) ?_
        refine x_iconst (pc := 177) (v := 1) C dX6_joinTwo_177 rfl ?_
        refine x_isub (pc := 178) C dX6_joinTwo_178 ?_
        refine x_eq (show (nI (z.1 - 1)) - 1 = nI (z.1 - 1 - 1) from (pk_sub (b := 1) (by omega))) ?_
        refine x_iload (pc := 179) C 0 dX6_joinTwo_179 rfl ?_
        refine s_stack (pc := 181) C E hq (by omega) dX6_joinTwo_181 ?_
        exact x_vret (pc := 182) C X dX6_joinTwo_182 ⟨rfl, by rw [zput_put2]; unfold zjoin zop; rw [if_pos hp, show z.1 - 1 - 1 = z.1 - 2 by omega]; first | (simp [*, b2i]; done) | (simp [*, b2i, Int32.not_lt.mpr h98]; done) | (simp [*, b2i, Int32.not_le.mp h98]; done)⟩
      · refine x_iconst (pc := 152) (v := 1) C dX6_joinTwo_152 rfl ?_
        refine x_goto (pc := 153) C 157 dX6_joinTwo_153 (by decide) ?_
        refine x_istore (pc := 157) (L' := [(4, .int 1), (3, .int (z.2 (z.1 - 1))), (2, .int (z.2 (z.1 - 2))), (0, .ref (t.1 (19 + 5 * q))), (1, .int x)]) C dX6_joinTwo_157 (by decide) rfl ?_
        refine x_aload_n (pc := 159) C 3 dX6_joinTwo_159 rfl ?_
        refine x_dup (pc := 160) C dX6_joinTwo_160 rfl ?_
        refine g_Rule_top (pc := 161) C E hq q24_19 dX6_joinTwo_161 ?_
        refine x_eq (show (zput M q z) (19 + 5 * q) 5 = nI z.1 from (zput_top M q z)) ?_
        refine x_iconst (pc := 164) (v := 1) C dX6_joinTwo_164 rfl ?_
        refine x_isub (pc := 165) C dX6_joinTwo_165 ?_
        refine x_eq (show (nI z.1) - 1 = nI (z.1 - 1) from (pk_sub (b := 1) (by omega))) ?_
        refine p_Rule_top (pc := 166) C E hq q24_19 dX6_joinTwo_166 ?_
        refine x_aload_n (pc := 169) C 3 dX6_joinTwo_169 rfl ?_
        refine g_Rule_stack (pc := 170) C E hq q3_21 dX6_joinTwo_170 ?_
        refine x_aload_n (pc := 173) C 3 dX6_joinTwo_173 rfl ?_
        refine g_Rule_top (pc := 174) C E hq q24_19 dX6_joinTwo_174 ?_
        refine x_eq (show (mu (zput M q z) (19 + 5 * q) 5 (nI (z.1 - 1))) (19 + 5 * q) 5 = nI (z.1 - 1) from (mu_s _ _ _ _)) ?_
        refine x_iconst (pc := 177) (v := 1) C dX6_joinTwo_177 rfl ?_
        refine x_isub (pc := 178) C dX6_joinTwo_178 ?_
        refine x_eq (show (nI (z.1 - 1)) - 1 = nI (z.1 - 1 - 1) from (pk_sub (b := 1) (by omega))) ?_
        refine x_iload (pc := 179) C 0 dX6_joinTwo_179 rfl ?_
        refine s_stack (pc := 181) C E hq (by omega) dX6_joinTwo_181 ?_
        exact x_vret (pc := 182) C X dX6_joinTwo_182 ⟨rfl, by rw [zput_put2]; unfold zjoin zop; rw [if_pos hp, show z.1 - 1 - 1 = z.1 - 2 by omega]; first | (simp [*, b2i]; done) | (simp [*, b2i, Int32.not_lt.mpr h98]; done) | (simp [*, b2i, Int32.not_le.mp h98]; done)⟩
  · exact x_vret (pc := 8) C X dX6_joinTwo_8 ⟨rfl, by unfold zjoin; rw [if_neg (show ¬ 2 ≤ z.1 from fun h => absurd (nI_le h (by omega)) h5)]⟩

set_option maxRecDepth 100000 in
set_option maxHeartbeats 4000000 in
theorem c_X6_answer (t : CT) (M : MM) {q : Nat} (hq : q < 7) {e : Nat → Nat} (he : ∀ k, k < 3 → M (21 + 5 * q) k = nI (e k)) (he3 : ∀ k, k < 3 → e k ≤ 160) {p : Nat} (hp : p < 3) : XMet (wC t) yX6_answer cX6_answer 5 (some .int) 3 [.ref (t.1 (19 + 5 * q)), .int (nI p)] M (fun r M' => r = some (.int (evJ (M (20 + 5 * q)) (M (22 + 5 * q)) (M (23 + 5 * q)) (evF e p) (e p - evF e p))) ∧ Jk q M M') := by
  refine x_met RX6 (by decide) rfl (Nat.le_of_ble_eq_true rfl) (fun κ C X E => ?_)
  refine x_L (L' := [(0, .ref (t.1 (19 + 5 * q))), (1, .int (nI p))]) rfl ?_
  refine x_aload_n (pc := 0) C 0 dX6_answer_0 rfl ?_
  refine x_iconst (pc := 1) (v := (nI 0)) C dX6_answer_1 (by decide) ?_
  refine p_Rule_top (pc := 2) C E hq q24_19 dX6_answer_2 ?_
  refine x_M (zput_0 M q) ?_
  refine x_iload_n (pc := 5) C 1 dX6_answer_5 rfl ?_
  refine x_if_ne (pc := 6) C 13 dX6_answer_6 (by decide) (fun h6 => ?_) (fun h6 => ?_)
  · have hp0 : 0 < p := Nat.pos_of_ne_zero fun h => h6 (by rw [h]; rfl)
    refine x_aload_n (pc := 13) C 0 dX6_answer_13 rfl ?_
    refine g_Rule_ends (pc := 14) C E hq q3_19 dX6_answer_14 ?_
    refine x_iload_n (pc := 17) C 1 dX6_answer_17 rfl ?_
    refine x_iconst (pc := 18) (v := (nI 1)) C dX6_answer_18 (by decide) ?_
    refine x_isub (pc := 19) C dX6_answer_19 ?_
    refine x_eq (show (nI p) - (nI 1) = nI (p - 1) from (pk_sub (b := 1) hp0)) ?_
    refine l_ends (pc := 20) C E hq (by omega) dX6_answer_20 ?_
    refine x_eq (show (zput M q (0, M (23 + 5 * q))) (21 + 5 * q) (p - 1) = nI (e (p - 1)) from (by rw [zput_o _ _ _ _ (by omega) (by omega)]; exact he _ (by omega))) ?_
    refine x_istore_n (pc := 21) (L' := [(2, .int (nI (e (p - 1)))), (0, .ref (t.1 (19 + 5 * q))), (1, .int (nI p))]) C dX6_answer_21 (by decide) rfl ?_
    refine x_iload_n (pc := 22) C 0 dX6_answer_22 rfl ?_
    refine x_istore_n (pc := 23) (L' := [(3, .int (nI (e (p - 1)))), (2, .int (nI (e (p - 1)))), (0, .ref (t.1 (19 + 5 * q))), (1, .int (nI p))]) C dX6_answer_23 (by decide) rfl ?_
    have loop24 : ∀ (k dd : Nat) (y : Int32) (Mx : MM) , dd + k = e p - (e (p - 1)) → y = nI (e (p - 1) + dd) → Mx = zput M q (zrun (M (20 + 5 * q)) (M (22 + 5 * q)) (e (p - 1)) dd (0, M (23 + 5 * q))) → XV κ (xP (wC t) Mx) 24 [(0, .ref (t.1 (19 + 5 * q))), (1, .int (nI p)), (3, .int y)] [] := by
      intro k
      induction k with
        | zero =>
          intro dd y Mx  hcnt ey eMx
          subst ey
          subst eMx
          obtain rfl : e p - (e (p - 1)) = dd := by omega
          have hz : (zrun (M (20 + 5 * q)) (M (22 + 5 * q)) (e (p - 1)) (e p - (e (p - 1))) (0, M (23 + 5 * q))).1 ≤ 32 := zrun_le (Nat.zero_le _) _
          refine x_iload_n (pc := 24) C 2 dX6_answer_24 rfl ?_
          refine x_aload_n (pc := 25) C 0 dX6_answer_25 rfl ?_
          refine g_Rule_ends (pc := 26) C E hq q3_19 dX6_answer_26 ?_
          refine x_iload_n (pc := 29) C 1 dX6_answer_29 rfl ?_
          refine l_ends (pc := 30) C E hq (by omega) dX6_answer_30 ?_
          refine x_eq (show (zput M q (zrun (M (20 + 5 * q)) (M (22 + 5 * q)) (e (p - 1)) (e p - (e (p - 1))) (0, M (23 + 5 * q)))) (21 + 5 * q) p = nI (e p) from (by rw [zput_o _ _ _ _ (by omega) (by omega)]; exact he p hp)) ?_
          refine x_icmp_ge_t (pc := 31) C 116 dX6_answer_31 (by decide) (nI_le (by omega) (by have := he3 p hp; have := he3 (p - 1) (by omega); omega)) ?_
          refine x_aload_n (pc := 116) C 0 dX6_answer_116 rfl ?_
          refine g_Rule_top (pc := 117) C E hq q24_19 dX6_answer_117 ?_
          refine x_eq (show (zput M q (zrun (M (20 + 5 * q)) (M (22 + 5 * q)) (e (p - 1)) (e p - (e (p - 1))) (0, M (23 + 5 * q)))) (19 + 5 * q) 5 = nI (zrun (M (20 + 5 * q)) (M (22 + 5 * q)) (e (p - 1)) (e p - (e (p - 1))) (0, M (23 + 5 * q))).1 from (zput_top _ _ _)) ?_
          refine x_if_le (pc := 120) C 137 dX6_answer_120 (by decide) (fun h120 => ?_) (fun h120 => ?_)
          · refine x_iconst (pc := 137) (v := 0) C dX6_answer_137 rfl ?_
            exact x_iret (pc := 138) C X dX6_answer_138 ⟨by
                unfold evJ evF
                first | (subst hp0; simp only [if_true]) | rw [if_neg (show ¬ p = 0 by omega)]
                rw [if_neg (fun h => absurd h120 (nI_nle h (by omega)))], Jk.z Jk.rf⟩
          · have hz0 : 0 < (zrun (M (20 + 5 * q)) (M (22 + 5 * q)) (e (p - 1)) (e p - (e (p - 1))) (0, M (23 + 5 * q))).1 := Nat.pos_of_ne_zero fun h => h120 (by rw [h]; decide)
            refine x_aload_n (pc := 123) C 0 dX6_answer_123 rfl ?_
            refine g_Rule_stack (pc := 124) C E hq q3_21 dX6_answer_124 ?_
            refine x_aload_n (pc := 127) C 0 dX6_answer_127 rfl ?_
            refine g_Rule_top (pc := 128) C E hq q24_19 dX6_answer_128 ?_
            refine x_eq (show (zput M q (zrun (M (20 + 5 * q)) (M (22 + 5 * q)) (e (p - 1)) (e p - (e (p - 1))) (0, M (23 + 5 * q)))) (19 + 5 * q) 5 = nI (zrun (M (20 + 5 * q)) (M (22 + 5 * q)) (e (p - 1)) (e p - (e (p - 1))) (0, M (23 + 5 * q))).1 from (zput_top _ _ _)) ?_
            refine x_iconst (pc := 131) (v := (nI 1)) C dX6_answer_131 (by decide) ?_
            refine x_isub (pc := 132) C dX6_answer_132 ?_
            refine x_eq (show (nI (zrun (M (20 + 5 * q)) (M (22 + 5 * q)) (e (p - 1)) (e p - (e (p - 1))) (0, M (23 + 5 * q))).1) - (nI 1) = nI ((zrun (M (20 + 5 * q)) (M (22 + 5 * q)) (e (p - 1)) (e p - (e (p - 1))) (0, M (23 + 5 * q))).1 - 1) from (pk_sub (b := 1) hz0)) ?_
            refine l_stack (pc := 133) C E hq (by omega) dX6_answer_133 ?_
            refine x_eq (show (zput M q (zrun (M (20 + 5 * q)) (M (22 + 5 * q)) (e (p - 1)) (e p - (e (p - 1))) (0, M (23 + 5 * q)))) (23 + 5 * q) ((zrun (M (20 + 5 * q)) (M (22 + 5 * q)) (e (p - 1)) (e p - (e (p - 1))) (0, M (23 + 5 * q))).1 - 1) = (zrun (M (20 + 5 * q)) (M (22 + 5 * q)) (e (p - 1)) (e p - (e (p - 1))) (0, M (23 + 5 * q))).2 ((zrun (M (20 + 5 * q)) (M (22 + 5 * q)) (e (p - 1)) (e p - (e (p - 1))) (0, M (23 + 5 * q))).1 - 1) from (zput_st _ _ _ _)) ?_
            refine x_goto (pc := 134) C 138 dX6_answer_134 (by decide) ?_
            exact x_iret (pc := 138) C X dX6_answer_138 ⟨by
                unfold evJ evF
                first | (subst hp0; simp only [if_true]) | rw [if_neg (show ¬ p = 0 by omega)]
                rw [if_pos hz0], Jk.z Jk.rf⟩
        | succ k ih =>
          intro dd y Mx  hcnt ey eMx
          subst ey
          subst eMx
          have hi24 : dd < e p - (e (p - 1)) := by omega
          have hz : (zrun (M (20 + 5 * q)) (M (22 + 5 * q)) (e (p - 1)) dd (0, M (23 + 5 * q))).1 ≤ 32 := zrun_le (Nat.zero_le _) dd
          have h160 : e (p - 1) + dd < 160 := by have := he3 p hp; omega
          refine x_iload_n (pc := 24) C 2 dX6_answer_24 rfl ?_
          refine x_aload_n (pc := 25) C 0 dX6_answer_25 rfl ?_
          refine g_Rule_ends (pc := 26) C E hq q3_19 dX6_answer_26 ?_
          refine x_iload_n (pc := 29) C 1 dX6_answer_29 rfl ?_
          refine l_ends (pc := 30) C E hq (by omega) dX6_answer_30 ?_
          refine x_eq (show (zput M q (zrun (M (20 + 5 * q)) (M (22 + 5 * q)) (e (p - 1)) dd (0, M (23 + 5 * q)))) (21 + 5 * q) p = nI (e p) from (by rw [zput_o _ _ _ _ (by omega) (by omega)]; exact he p hp)) ?_
          refine x_icmp_ge_f (pc := 31) C 116 dX6_answer_31 (by decide) (nI_ge (by omega) (by have := he3 p hp; omega)) ?_
          refine x_iload_n (pc := 34) C 2 dX6_answer_34 rfl ?_
          refine x_aload_n (pc := 35) C 0 dX6_answer_35 rfl ?_
          refine g_Rule_steps (pc := 36) C E hq q3_18 dX6_answer_36 ?_
          refine n_steps (pc := 39) C E hq dX6_answer_39 ?_
          refine x_eq (show 160 = nI 160 from rfl) ?_
          refine x_icmp_ge_f (pc := 40) C 116 dX6_answer_40 (by decide) (nI_ge h160 (by decide)) ?_
          refine x_aload_n (pc := 43) C 0 dX6_answer_43 rfl ?_
          refine g_Rule_steps (pc := 44) C E hq q3_18 dX6_answer_44 ?_
          refine x_iload_n (pc := 47) C 2 dX6_answer_47 rfl ?_
          refine l_steps (pc := 48) C E hq (by omega) dX6_answer_48 ?_
          refine x_eq (show (zput M q (zrun (M (20 + 5 * q)) (M (22 + 5 * q)) (e (p - 1)) dd (0, M (23 + 5 * q)))) (20 + 5 * q) (e (p - 1) + dd) = M (20 + 5 * q) (e (p - 1) + dd) from (zput_o _ _ _ _ (by omega) (by omega))) ?_
          refine x_istore (pc := 49) (L' := [(4, .int (M (20 + 5 * q) (e (p - 1) + dd))), (0, .ref (t.1 (19 + 5 * q))), (1, .int (nI p)), (3, .int (nI (e (p - 1) + dd)))]) C dX6_answer_49 (by decide) rfl ?_
          refine x_iload (pc := 51) C 0 dX6_answer_51 rfl ?_
          refine x_if_lt (pc := 53) C 65 dX6_answer_53 (by decide) (fun h53 => ?_) (fun h53 => ?_)
          · refine x_iload (pc := 65) C 0 dX6_answer_65 rfl ?_
            refine x_bipush (pc := 67) (v := (-6)) C dX6_answer_67 rfl ?_
            refine x_icmp_lt (pc := 69) C 88 dX6_answer_69 (by decide) (fun h69 => ?_) (fun h69 => ?_)
            · refine x_iload (pc := 88) C 0 dX6_answer_88 rfl ?_
              refine x_bipush (pc := 90) (v := (-8)) C dX6_answer_90 rfl ?_
              refine x_icmp_lt (pc := 92) C 104 dX6_answer_92 (by decide) (fun h92 => ?_) (fun h92 => ?_)
              · refine x_aload_n (pc := 104) C 1 dX6_answer_104 rfl ?_
                refine x_iload (pc := 105) C 0 dX6_answer_105 rfl ?_
                refine x_callV (pc := 107) C E [.int (M (20 + 5 * q) (e (p - 1) + dd))] [] (c_X6_joinTwo t M hq hz _ h92) m_X6_joinTwo q25_4 (xo_Rule hq) rfl (by decide) (Nat.le_of_ble_eq_true rfl) dX6_answer_107 rfl (k_U ?_)
                refine x_iinc (pc := 110) (v := nI ((e (p - 1) + dd) + 1)) (L' := [(3, .int (nI ((e (p - 1) + dd) + 1))), (4, .int (M (20 + 5 * q) (e (p - 1) + dd))), (0, .ref (t.1 (19 + 5 * q))), (1, .int (nI p))]) C 3 dX6_answer_110 rfl (nI_1 _) (by decide) rfl ?_
                refine x_goto (pc := 113) C 24 dX6_answer_113 (by decide) ?_
                refine x_sub [2, 3, 0] rfl ?_
                exact ih (dd + 1) _ _ (by omega) rfl (by rw [zrun_S]; first | rw [zst_p h53] | rw [zst_n h53 h69] | rw [zst_t h53 h69 h92] | rw [zst_j h53 h69 h92])
              · refine x_aload_n (pc := 95) C 1 dX6_answer_95 rfl ?_
                refine x_iload (pc := 96) C 0 dX6_answer_96 rfl ?_
                refine x_callV (pc := 98) C E [.int (M (20 + 5 * q) (e (p - 1) + dd))] [] (c_X6_turnTop t M hq hz _) m_X6_turnTop q25_0 (xo_Rule hq) rfl (by decide) (Nat.le_of_ble_eq_true rfl) dX6_answer_98 rfl (k_U ?_)
                refine x_goto (pc := 101) C 110 dX6_answer_101 (by decide) ?_
                refine x_iinc (pc := 110) (v := nI ((e (p - 1) + dd) + 1)) (L' := [(3, .int (nI ((e (p - 1) + dd) + 1))), (4, .int (M (20 + 5 * q) (e (p - 1) + dd))), (0, .ref (t.1 (19 + 5 * q))), (1, .int (nI p))]) C 3 dX6_answer_110 rfl (nI_1 _) (by decide) rfl ?_
                refine x_goto (pc := 113) C 24 dX6_answer_113 (by decide) ?_
                refine x_sub [2, 3, 0] rfl ?_
                exact ih (dd + 1) _ _ (by omega) rfl (by rw [zrun_S]; first | rw [zst_p h53] | rw [zst_n h53 h69] | rw [zst_t h53 h69 h92] | rw [zst_j h53 h69 h92])
            · refine x_aload_n (pc := 72) C 1 dX6_answer_72 rfl ?_
              refine x_aload_n (pc := 73) C 1 dX6_answer_73 rfl ?_
              refine g_Rule_names (pc := 74) C E hq q3_20 dX6_answer_74 ?_
              refine x_iconst (pc := 77) (v := (-1)) C dX6_answer_77 rfl ?_
              refine x_iload (pc := 78) C 0 dX6_answer_78 rfl ?_
              refine x_isub (pc := 80) C dX6_answer_80 ?_
              have hix := nm_ix h53 h69
              refine x_eq (show (-1) - (M (20 + 5 * q) (e (p - 1) + dd)) = nI ((-1 - (M (20 + 5 * q) (e (p - 1) + dd)).toInt).toNat) from hix.1) ?_
              refine l_names (pc := 81) C E hq hix.2 dX6_answer_81 ?_
              refine x_eq (show (zput M q (zrun (M (20 + 5 * q)) (M (22 + 5 * q)) (e (p - 1)) dd (0, M (23 + 5 * q)))) (22 + 5 * q) ((-1 - (M (20 + 5 * q) (e (p - 1) + dd)).toInt).toNat) = M (22 + 5 * q) ((-1 - (M (20 + 5 * q) (e (p - 1) + dd)).toInt).toNat) from (zput_o _ _ _ _ (by omega) (by omega))) ?_
              refine x_callV (pc := 82) C E [.int (M (22 + 5 * q) ((-1 - (M (20 + 5 * q) (e (p - 1) + dd)).toInt).toNat))] [] (c_X6_push t M hq hz _) m_X6_push q24_20 (xo_Rule hq) rfl (by decide) (Nat.le_of_ble_eq_true rfl) dX6_answer_82 rfl (k_U ?_)
              refine x_goto (pc := 85) C 110 dX6_answer_85 (by decide) ?_
              refine x_iinc (pc := 110) (v := nI ((e (p - 1) + dd) + 1)) (L' := [(3, .int (nI ((e (p - 1) + dd) + 1))), (4, .int (M (20 + 5 * q) (e (p - 1) + dd))), (0, .ref (t.1 (19 + 5 * q))), (1, .int (nI p))]) C 3 dX6_answer_110 rfl (nI_1 _) (by decide) rfl ?_
              refine x_goto (pc := 113) C 24 dX6_answer_113 (by decide) ?_
              refine x_sub [2, 3, 0] rfl ?_
              exact ih (dd + 1) _ _ (by omega) rfl (by rw [zrun_S]; first | rw [zst_p h53] | rw [zst_n h53 h69] | rw [zst_t h53 h69 h92] | rw [zst_j h53 h69 h92])
          · refine x_aload_n (pc := 56) C 1 dX6_answer_56 rfl ?_
            refine x_iload (pc := 57) C 0 dX6_answer_57 rfl ?_
            refine x_callV (pc := 59) C E [.int (M (20 + 5 * q) (e (p - 1) + dd))] [] (c_X6_push t M hq hz _) m_X6_push q24_20 (xo_Rule hq) rfl (by decide) (Nat.le_of_ble_eq_true rfl) dX6_answer_59 rfl (k_U ?_)
            refine x_goto (pc := 62) C 110 dX6_answer_62 (by decide) ?_
            refine x_iinc (pc := 110) (v := nI ((e (p - 1) + dd) + 1)) (L' := [(3, .int (nI ((e (p - 1) + dd) + 1))), (4, .int (M (20 + 5 * q) (e (p - 1) + dd))), (0, .ref (t.1 (19 + 5 * q))), (1, .int (nI p))]) C 3 dX6_answer_110 rfl (nI_1 _) (by decide) rfl ?_
            refine x_goto (pc := 113) C 24 dX6_answer_113 (by decide) ?_
            refine x_sub [2, 3, 0] rfl ?_
            exact ih (dd + 1) _ _ (by omega) rfl (by rw [zrun_S]; first | rw [zst_p h53] | rw [zst_n h53 h69] | rw [zst_t h53 h69 h92] | rw [zst_j h53 h69 h92])
    refine x_sub [2, 3, 0] rfl ?_
    exact loop24 _ 0 _ _ (Nat.zero_add _) rfl rfl
  · refine x_iconst (pc := 9) (v := (nI 0)) C dX6_answer_9 (by decide) ?_
    refine x_goto (pc := 10) C 21 dX6_answer_10 (by decide) ?_
    have hp0 : p = 0 := (nI_eq (by omega) (by decide)).mp h6
    refine x_istore_n (pc := 21) (L' := [(2, .int (nI 0)), (0, .ref (t.1 (19 + 5 * q))), (1, .int (nI p))]) C dX6_answer_21 (by decide) rfl ?_
    refine x_iload_n (pc := 22) C 0 dX6_answer_22 rfl ?_
    refine x_istore_n (pc := 23) (L' := [(3, .int (nI 0)), (2, .int (nI 0)), (0, .ref (t.1 (19 + 5 * q))), (1, .int (nI p))]) C dX6_answer_23 (by decide) rfl ?_
    have loop24 : ∀ (k dd : Nat) (y : Int32) (Mx : MM) , dd + k = e p - 0 → y = nI (0 + dd) → Mx = zput M q (zrun (M (20 + 5 * q)) (M (22 + 5 * q)) 0 dd (0, M (23 + 5 * q))) → XV κ (xP (wC t) Mx) 24 [(0, .ref (t.1 (19 + 5 * q))), (1, .int (nI p)), (3, .int y)] [] := by
      intro k
      induction k with
        | zero =>
          intro dd y Mx  hcnt ey eMx
          subst ey
          subst eMx
          obtain rfl : e p - 0 = dd := by omega
          have hz : (zrun (M (20 + 5 * q)) (M (22 + 5 * q)) 0 (e p - 0) (0, M (23 + 5 * q))).1 ≤ 32 := zrun_le (Nat.zero_le _) _
          refine x_iload_n (pc := 24) C 2 dX6_answer_24 rfl ?_
          refine x_aload_n (pc := 25) C 0 dX6_answer_25 rfl ?_
          refine g_Rule_ends (pc := 26) C E hq q3_19 dX6_answer_26 ?_
          refine x_iload_n (pc := 29) C 1 dX6_answer_29 rfl ?_
          refine l_ends (pc := 30) C E hq (by omega) dX6_answer_30 ?_
          refine x_eq (show (zput M q (zrun (M (20 + 5 * q)) (M (22 + 5 * q)) 0 (e p - 0) (0, M (23 + 5 * q)))) (21 + 5 * q) p = nI (e p) from (by rw [zput_o _ _ _ _ (by omega) (by omega)]; exact he p hp)) ?_
          refine x_icmp_ge_t (pc := 31) C 116 dX6_answer_31 (by decide) (nI_le (by omega) (by have := he3 p hp; have := he3 (p - 1) (by omega); omega)) ?_
          refine x_aload_n (pc := 116) C 0 dX6_answer_116 rfl ?_
          refine g_Rule_top (pc := 117) C E hq q24_19 dX6_answer_117 ?_
          refine x_eq (show (zput M q (zrun (M (20 + 5 * q)) (M (22 + 5 * q)) 0 (e p - 0) (0, M (23 + 5 * q)))) (19 + 5 * q) 5 = nI (zrun (M (20 + 5 * q)) (M (22 + 5 * q)) 0 (e p - 0) (0, M (23 + 5 * q))).1 from (zput_top _ _ _)) ?_
          refine x_if_le (pc := 120) C 137 dX6_answer_120 (by decide) (fun h120 => ?_) (fun h120 => ?_)
          · refine x_iconst (pc := 137) (v := 0) C dX6_answer_137 rfl ?_
            exact x_iret (pc := 138) C X dX6_answer_138 ⟨by
                unfold evJ evF
                first | (subst hp0; simp only [if_true]) | rw [if_neg (show ¬ p = 0 by omega)]
                rw [if_neg (fun h => absurd h120 (nI_nle h (by omega)))], Jk.z Jk.rf⟩
          · have hz0 : 0 < (zrun (M (20 + 5 * q)) (M (22 + 5 * q)) 0 (e p - 0) (0, M (23 + 5 * q))).1 := Nat.pos_of_ne_zero fun h => h120 (by rw [h]; decide)
            refine x_aload_n (pc := 123) C 0 dX6_answer_123 rfl ?_
            refine g_Rule_stack (pc := 124) C E hq q3_21 dX6_answer_124 ?_
            refine x_aload_n (pc := 127) C 0 dX6_answer_127 rfl ?_
            refine g_Rule_top (pc := 128) C E hq q24_19 dX6_answer_128 ?_
            refine x_eq (show (zput M q (zrun (M (20 + 5 * q)) (M (22 + 5 * q)) 0 (e p - 0) (0, M (23 + 5 * q)))) (19 + 5 * q) 5 = nI (zrun (M (20 + 5 * q)) (M (22 + 5 * q)) 0 (e p - 0) (0, M (23 + 5 * q))).1 from (zput_top _ _ _)) ?_
            refine x_iconst (pc := 131) (v := (nI 1)) C dX6_answer_131 (by decide) ?_
            refine x_isub (pc := 132) C dX6_answer_132 ?_
            refine x_eq (show (nI (zrun (M (20 + 5 * q)) (M (22 + 5 * q)) 0 (e p - 0) (0, M (23 + 5 * q))).1) - (nI 1) = nI ((zrun (M (20 + 5 * q)) (M (22 + 5 * q)) 0 (e p - 0) (0, M (23 + 5 * q))).1 - 1) from (pk_sub (b := 1) hz0)) ?_
            refine l_stack (pc := 133) C E hq (by omega) dX6_answer_133 ?_
            refine x_eq (show (zput M q (zrun (M (20 + 5 * q)) (M (22 + 5 * q)) 0 (e p - 0) (0, M (23 + 5 * q)))) (23 + 5 * q) ((zrun (M (20 + 5 * q)) (M (22 + 5 * q)) 0 (e p - 0) (0, M (23 + 5 * q))).1 - 1) = (zrun (M (20 + 5 * q)) (M (22 + 5 * q)) 0 (e p - 0) (0, M (23 + 5 * q))).2 ((zrun (M (20 + 5 * q)) (M (22 + 5 * q)) 0 (e p - 0) (0, M (23 + 5 * q))).1 - 1) from (zput_st _ _ _ _)) ?_
            refine x_goto (pc := 134) C 138 dX6_answer_134 (by decide) ?_
            exact x_iret (pc := 138) C X dX6_answer_138 ⟨by
                unfold evJ evF
                first | (subst hp0; simp only [if_true]) | rw [if_neg (show ¬ p = 0 by omega)]
                rw [if_pos hz0], Jk.z Jk.rf⟩
        | succ k ih =>
          intro dd y Mx  hcnt ey eMx
          subst ey
          subst eMx
          have hi24 : dd < e p - 0 := by omega
          have hz : (zrun (M (20 + 5 * q)) (M (22 + 5 * q)) 0 dd (0, M (23 + 5 * q))).1 ≤ 32 := zrun_le (Nat.zero_le _) dd
          have h160 : 0 + dd < 160 := by have := he3 p hp; omega
          refine x_iload_n (pc := 24) C 2 dX6_answer_24 rfl ?_
          refine x_aload_n (pc := 25) C 0 dX6_answer_25 rfl ?_
          refine g_Rule_ends (pc := 26) C E hq q3_19 dX6_answer_26 ?_
          refine x_iload_n (pc := 29) C 1 dX6_answer_29 rfl ?_
          refine l_ends (pc := 30) C E hq (by omega) dX6_answer_30 ?_
          refine x_eq (show (zput M q (zrun (M (20 + 5 * q)) (M (22 + 5 * q)) 0 dd (0, M (23 + 5 * q)))) (21 + 5 * q) p = nI (e p) from (by rw [zput_o _ _ _ _ (by omega) (by omega)]; exact he p hp)) ?_
          refine x_icmp_ge_f (pc := 31) C 116 dX6_answer_31 (by decide) (nI_ge (by omega) (by have := he3 p hp; omega)) ?_
          refine x_iload_n (pc := 34) C 2 dX6_answer_34 rfl ?_
          refine x_aload_n (pc := 35) C 0 dX6_answer_35 rfl ?_
          refine g_Rule_steps (pc := 36) C E hq q3_18 dX6_answer_36 ?_
          refine n_steps (pc := 39) C E hq dX6_answer_39 ?_
          refine x_eq (show 160 = nI 160 from rfl) ?_
          refine x_icmp_ge_f (pc := 40) C 116 dX6_answer_40 (by decide) (nI_ge h160 (by decide)) ?_
          refine x_aload_n (pc := 43) C 0 dX6_answer_43 rfl ?_
          refine g_Rule_steps (pc := 44) C E hq q3_18 dX6_answer_44 ?_
          refine x_iload_n (pc := 47) C 2 dX6_answer_47 rfl ?_
          refine l_steps (pc := 48) C E hq (by omega) dX6_answer_48 ?_
          refine x_eq (show (zput M q (zrun (M (20 + 5 * q)) (M (22 + 5 * q)) 0 dd (0, M (23 + 5 * q)))) (20 + 5 * q) (0 + dd) = M (20 + 5 * q) (0 + dd) from (zput_o _ _ _ _ (by omega) (by omega))) ?_
          refine x_istore (pc := 49) (L' := [(4, .int (M (20 + 5 * q) (0 + dd))), (0, .ref (t.1 (19 + 5 * q))), (1, .int (nI p)), (3, .int (nI (0 + dd)))]) C dX6_answer_49 (by decide) rfl ?_
          refine x_iload (pc := 51) C 0 dX6_answer_51 rfl ?_
          refine x_if_lt (pc := 53) C 65 dX6_answer_53 (by decide) (fun h53 => ?_) (fun h53 => ?_)
          · refine x_iload (pc := 65) C 0 dX6_answer_65 rfl ?_
            refine x_bipush (pc := 67) (v := (-6)) C dX6_answer_67 rfl ?_
            refine x_icmp_lt (pc := 69) C 88 dX6_answer_69 (by decide) (fun h69 => ?_) (fun h69 => ?_)
            · refine x_iload (pc := 88) C 0 dX6_answer_88 rfl ?_
              refine x_bipush (pc := 90) (v := (-8)) C dX6_answer_90 rfl ?_
              refine x_icmp_lt (pc := 92) C 104 dX6_answer_92 (by decide) (fun h92 => ?_) (fun h92 => ?_)
              · refine x_aload_n (pc := 104) C 1 dX6_answer_104 rfl ?_
                refine x_iload (pc := 105) C 0 dX6_answer_105 rfl ?_
                refine x_callV (pc := 107) C E [.int (M (20 + 5 * q) (0 + dd))] [] (c_X6_joinTwo t M hq hz _ h92) m_X6_joinTwo q25_4 (xo_Rule hq) rfl (by decide) (Nat.le_of_ble_eq_true rfl) dX6_answer_107 rfl (k_U ?_)
                refine x_iinc (pc := 110) (v := nI ((0 + dd) + 1)) (L' := [(3, .int (nI ((0 + dd) + 1))), (4, .int (M (20 + 5 * q) (0 + dd))), (0, .ref (t.1 (19 + 5 * q))), (1, .int (nI p))]) C 3 dX6_answer_110 rfl (nI_1 _) (by decide) rfl ?_
                refine x_goto (pc := 113) C 24 dX6_answer_113 (by decide) ?_
                refine x_sub [2, 3, 0] rfl ?_
                exact ih (dd + 1) _ _ (by omega) rfl (by rw [zrun_S]; first | rw [zst_p h53] | rw [zst_n h53 h69] | rw [zst_t h53 h69 h92] | rw [zst_j h53 h69 h92])
              · refine x_aload_n (pc := 95) C 1 dX6_answer_95 rfl ?_
                refine x_iload (pc := 96) C 0 dX6_answer_96 rfl ?_
                refine x_callV (pc := 98) C E [.int (M (20 + 5 * q) (0 + dd))] [] (c_X6_turnTop t M hq hz _) m_X6_turnTop q25_0 (xo_Rule hq) rfl (by decide) (Nat.le_of_ble_eq_true rfl) dX6_answer_98 rfl (k_U ?_)
                refine x_goto (pc := 101) C 110 dX6_answer_101 (by decide) ?_
                refine x_iinc (pc := 110) (v := nI ((0 + dd) + 1)) (L' := [(3, .int (nI ((0 + dd) + 1))), (4, .int (M (20 + 5 * q) (0 + dd))), (0, .ref (t.1 (19 + 5 * q))), (1, .int (nI p))]) C 3 dX6_answer_110 rfl (nI_1 _) (by decide) rfl ?_
                refine x_goto (pc := 113) C 24 dX6_answer_113 (by decide) ?_
                refine x_sub [2, 3, 0] rfl ?_
                exact ih (dd + 1) _ _ (by omega) rfl (by rw [zrun_S]; first | rw [zst_p h53] | rw [zst_n h53 h69] | rw [zst_t h53 h69 h92] | rw [zst_j h53 h69 h92])
            · refine x_aload_n (pc := 72) C 1 dX6_answer_72 rfl ?_
              refine x_aload_n (pc := 73) C 1 dX6_answer_73 rfl ?_
              refine g_Rule_names (pc := 74) C E hq q3_20 dX6_answer_74 ?_
              refine x_iconst (pc := 77) (v := (-1)) C dX6_answer_77 rfl ?_
              refine x_iload (pc := 78) C 0 dX6_answer_78 rfl ?_
              refine x_isub (pc := 80) C dX6_answer_80 ?_
              have hix := nm_ix h53 h69
              refine x_eq (show (-1) - (M (20 + 5 * q) (0 + dd)) = nI ((-1 - (M (20 + 5 * q) (0 + dd)).toInt).toNat) from hix.1) ?_
              refine l_names (pc := 81) C E hq hix.2 dX6_answer_81 ?_
              refine x_eq (show (zput M q (zrun (M (20 + 5 * q)) (M (22 + 5 * q)) 0 dd (0, M (23 + 5 * q)))) (22 + 5 * q) ((-1 - (M (20 + 5 * q) (0 + dd)).toInt).toNat) = M (22 + 5 * q) ((-1 - (M (20 + 5 * q) (0 + dd)).toInt).toNat) from (zput_o _ _ _ _ (by omega) (by omega))) ?_
              refine x_callV (pc := 82) C E [.int (M (22 + 5 * q) ((-1 - (M (20 + 5 * q) (0 + dd)).toInt).toNat))] [] (c_X6_push t M hq hz _) m_X6_push q24_20 (xo_Rule hq) rfl (by decide) (Nat.le_of_ble_eq_true rfl) dX6_answer_82 rfl (k_U ?_)
              refine x_goto (pc := 85) C 110 dX6_answer_85 (by decide) ?_
              refine x_iinc (pc := 110) (v := nI ((0 + dd) + 1)) (L' := [(3, .int (nI ((0 + dd) + 1))), (4, .int (M (20 + 5 * q) (0 + dd))), (0, .ref (t.1 (19 + 5 * q))), (1, .int (nI p))]) C 3 dX6_answer_110 rfl (nI_1 _) (by decide) rfl ?_
              refine x_goto (pc := 113) C 24 dX6_answer_113 (by decide) ?_
              refine x_sub [2, 3, 0] rfl ?_
              exact ih (dd + 1) _ _ (by omega) rfl (by rw [zrun_S]; first | rw [zst_p h53] | rw [zst_n h53 h69] | rw [zst_t h53 h69 h92] | rw [zst_j h53 h69 h92])
          · refine x_aload_n (pc := 56) C 1 dX6_answer_56 rfl ?_
            refine x_iload (pc := 57) C 0 dX6_answer_57 rfl ?_
            refine x_callV (pc := 59) C E [.int (M (20 + 5 * q) (0 + dd))] [] (c_X6_push t M hq hz _) m_X6_push q24_20 (xo_Rule hq) rfl (by decide) (Nat.le_of_ble_eq_true rfl) dX6_answer_59 rfl (k_U ?_)
            refine x_goto (pc := 62) C 110 dX6_answer_62 (by decide) ?_
            refine x_iinc (pc := 110) (v := nI ((0 + dd) + 1)) (L' := [(3, .int (nI ((0 + dd) + 1))), (4, .int (M (20 + 5 * q) (0 + dd))), (0, .ref (t.1 (19 + 5 * q))), (1, .int (nI p))]) C 3 dX6_answer_110 rfl (nI_1 _) (by decide) rfl ?_
            refine x_goto (pc := 113) C 24 dX6_answer_113 (by decide) ?_
            refine x_sub [2, 3, 0] rfl ?_
            exact ih (dd + 1) _ _ (by omega) rfl (by rw [zrun_S]; first | rw [zst_p h53] | rw [zst_n h53 h69] | rw [zst_t h53 h69 h92] | rw [zst_j h53 h69 h92])
    refine x_sub [2, 3, 0] rfl ?_
    exact loop24 _ 0 _ _ (Nat.zero_add _) rfl rfl

set_option maxRecDepth 100000 in
set_option maxHeartbeats 4000000 in
theorem c_X6_nameNothingThere (t : CT) (M : MM) {q : Nat} (hq : q < 7)  : XMet (wC t) yX6_nameNothingThere cX6_nameNothingThere 1 none 1 [.ref (t.1 (19 + 5 * q))] M (rU (mu (mu (mu M (22 + 5 * q) 0 0) (22 + 5 * q) 1 0) (22 + 5 * q) 2 0)) := by
  refine x_met RX6 (by decide) rfl (Nat.le_of_ble_eq_true rfl) (fun κ C X E => ?_)
  refine x_L (L' := [(0, .ref (t.1 (19 + 5 * q)))]) rfl ?_
  refine x_aload_n (pc := 0) C 0 dX6_nameNothingThere_0 rfl ?_
  refine g_Rule_names (pc := 1) C E hq q3_20 dX6_nameNothingThere_1 ?_
  refine x_iconst (pc := 4) (v := (nI 0)) C dX6_nameNothingThere_4 (by decide) ?_
  refine x_iconst (pc := 5) (v := 0) C dX6_nameNothingThere_5 rfl ?_
  refine s_names (pc := 6) C E hq (by omega) dX6_nameNothingThere_6 ?_
  refine x_aload_n (pc := 7) C 0 dX6_nameNothingThere_7 rfl ?_
  refine g_Rule_names (pc := 8) C E hq q3_20 dX6_nameNothingThere_8 ?_
  refine x_iconst (pc := 11) (v := (nI 1)) C dX6_nameNothingThere_11 (by decide) ?_
  refine x_iconst (pc := 12) (v := 0) C dX6_nameNothingThere_12 rfl ?_
  refine s_names (pc := 13) C E hq (by omega) dX6_nameNothingThere_13 ?_
  refine x_aload_n (pc := 14) C 0 dX6_nameNothingThere_14 rfl ?_
  refine g_Rule_names (pc := 15) C E hq q3_20 dX6_nameNothingThere_15 ?_
  refine x_iconst (pc := 18) (v := (nI 2)) C dX6_nameNothingThere_18 (by decide) ?_
  refine x_iconst (pc := 19) (v := 0) C dX6_nameNothingThere_19 rfl ?_
  refine s_names (pc := 20) C E hq (by omega) dX6_nameNothingThere_20 ?_
  exact x_vret (pc := 21) C X dX6_nameNothingThere_21 ⟨rfl, rfl⟩

set_option maxRecDepth 100000 in
set_option maxHeartbeats 4000000 in
theorem c_X6_nameRest (t : CT) (M : MM) {q : Nat} (hq : q < 7) (x1 x2 x3 : Int32) : XMet (wC t) yX6_nameRest cX6_nameRest 4 none 1 [.ref (t.1 (19 + 5 * q)), .int x1, .int x2, .int x3] M (rU (mu (mu (mu M (22 + 5 * q) 3 x1) (22 + 5 * q) 4 x2) (22 + 5 * q) 5 x3)) := by
  refine x_met RX6 (by decide) rfl (Nat.le_of_ble_eq_true rfl) (fun κ C X E => ?_)
  refine x_L (L' := [(0, .ref (t.1 (19 + 5 * q))), (1, .int x1), (2, .int x2), (3, .int x3)]) rfl ?_
  refine x_aload_n (pc := 0) C 0 dX6_nameRest_0 rfl ?_
  refine g_Rule_names (pc := 1) C E hq q3_20 dX6_nameRest_1 ?_
  refine x_iconst (pc := 4) (v := (nI 3)) C dX6_nameRest_4 (by decide) ?_
  refine x_iload_n (pc := 5) C 1 dX6_nameRest_5 rfl ?_
  refine s_names (pc := 6) C E hq (by omega) dX6_nameRest_6 ?_
  refine x_aload_n (pc := 7) C 0 dX6_nameRest_7 rfl ?_
  refine g_Rule_names (pc := 8) C E hq q3_20 dX6_nameRest_8 ?_
  refine x_iconst (pc := 11) (v := (nI 4)) C dX6_nameRest_11 (by decide) ?_
  refine x_iload_n (pc := 12) C 2 dX6_nameRest_12 rfl ?_
  refine s_names (pc := 13) C E hq (by omega) dX6_nameRest_13 ?_
  refine x_aload_n (pc := 14) C 0 dX6_nameRest_14 rfl ?_
  refine g_Rule_names (pc := 15) C E hq q3_20 dX6_nameRest_15 ?_
  refine x_iconst (pc := 18) (v := (nI 5)) C dX6_nameRest_18 (by decide) ?_
  refine x_iload_n (pc := 19) C 3 dX6_nameRest_19 rfl ?_
  refine s_names (pc := 20) C E hq (by omega) dX6_nameRest_20 ?_
  exact x_vret (pc := 21) C X dX6_nameRest_21 ⟨rfl, rfl⟩

def nm6 (a b c d e f : Int32) : Nat → Int32 := fun k => if k = 0 then a else if k = 1 then b else if k = 2 then c else if k = 3 then d else if k = 4 then e else f
def mu6 (M : MM) (q : Nat) (a b c d e f : Int32) : MM := mu (mu (mu (mu (mu (mu M (22 + 5 * q) 0 a) (22 + 5 * q) 1 b) (22 + 5 * q) 2 c) (22 + 5 * q) 3 d) (22 + 5 * q) 4 e) (22 + 5 * q) 5 f
theorem mu6_o (M : MM) (q : Nat) (a b c d e f : Int32) {n : Nat} (h : n ≠ 22 + 5 * q) : mu6 M q a b c d e f n = M n := by
  unfold mu6
  rw [mu_n _ _ _ _ h, mu_n _ _ _ _ h, mu_n _ _ _ _ h, mu_n _ _ _ _ h, mu_n _ _ _ _ h, mu_n _ _ _ _ h]
theorem mu6_s (M : MM) (q : Nat) (a b c d e f : Int32) {k : Nat} (h : k < 6) : mu6 M q a b c d e f (22 + 5 * q) k = nm6 a b c d e f k := by
  unfold mu6 nm6
  simp only [mu_at]
  rcases (by omega : k = 0 ∨ k = 1 ∨ k = 2 ∨ k = 3 ∨ k = 4 ∨ k = 5) with rfl | rfl | rfl | rfl | rfl | rfl <;> simp
theorem mu6_J {M : MM} {q : Nat} {a b c d e f : Int32} : Jk q M (mu6 M q a b c d e f) := fun x y h _ _ => congrFun (mu6_o M q a b c d e f h) y
theorem zstep_nm {nm nm' : Nat → Int32} (h : ∀ k, k < 6 → nm k = nm' k) {z : Nat × (Nat → Int32)} {s : Int32} : zstep nm z s = zstep nm' z s := by
  unfold zstep
  split
  · rfl
  · split
    · rw [h _ (by omega)]
    · rfl
theorem zrun_nm {nm nm' S : Nat → Int32} (h : ∀ k, k < 6 → nm k = nm' k) {f n : Nat} {z : Nat × (Nat → Int32)} : zrun S nm f n z = zrun S nm' f n z := by
  induction n with
  | zero => rfl
  | succ n ih => rw [zrun_S, zrun_S, ih, zstep_nm h]
theorem evJ_nm {nm nm' S s0 : Nat → Int32} (h : ∀ k, k < 6 → nm k = nm' k) {f n : Nat} : evJ S nm s0 f n = evJ S nm' s0 f n := by
  unfold evJ
  rw [zrun_nm h]
set_option maxRecDepth 100000 in
set_option maxHeartbeats 4000000 in
theorem c_X6_takes (t : CT) (M : MM) {q : Nat} (hq : q < 7) {e : Nat → Nat} (he : ∀ k, k < 3 → M (21 + 5 * q) k = nI (e k)) (he3 : ∀ k, k < 3 → e k ≤ 160) {Ev : (Nat → Int32) → Int32} (hE : ∀ nm s0, evJ (M (20 + 5 * q)) nm s0 (evF e 0) (e 0 - evF e 0) = Ev nm) (x1 x2 x3 x4 x5 x6 : Int32) : XMet (wC t) yX6_takes cX6_takes 7 (some .boolean) 4 [.ref (t.1 (19 + 5 * q)), .int x1, .int x2, .int x3, .int x4, .int x5, .int x6] M (fun r M' => r = some (.int (b2i (decide (Ev (nm6 x1 x2 x3 x4 x5 x6) ≠ 0)))) ∧ Jk q M M') := by
  refine x_met RX6 (by decide) rfl (Nat.le_of_ble_eq_true rfl) (fun κ C X E => ?_)
  refine x_L (L' := [(0, .ref (t.1 (19 + 5 * q))), (1, .int x1), (2, .int x2), (3, .int x3), (4, .int x4), (5, .int x5), (6, .int x6)]) rfl ?_
  refine x_aload_n (pc := 0) C 0 dX6_takes_0 rfl ?_
  refine g_Rule_names (pc := 1) C E hq q3_20 dX6_takes_1 ?_
  refine x_iconst (pc := 4) (v := (nI 0)) C dX6_takes_4 (by decide) ?_
  refine x_iload_n (pc := 5) C 1 dX6_takes_5 rfl ?_
  refine s_names (pc := 6) C E hq (by omega) dX6_takes_6 ?_
  refine x_aload_n (pc := 7) C 0 dX6_takes_7 rfl ?_
  refine g_Rule_names (pc := 8) C E hq q3_20 dX6_takes_8 ?_
  refine x_iconst (pc := 11) (v := (nI 1)) C dX6_takes_11 (by decide) ?_
  refine x_iload_n (pc := 12) C 2 dX6_takes_12 rfl ?_
  refine s_names (pc := 13) C E hq (by omega) dX6_takes_13 ?_
  refine x_aload_n (pc := 14) C 0 dX6_takes_14 rfl ?_
  refine g_Rule_names (pc := 15) C E hq q3_20 dX6_takes_15 ?_
  refine x_iconst (pc := 18) (v := (nI 2)) C dX6_takes_18 (by decide) ?_
  refine x_iload_n (pc := 19) C 3 dX6_takes_19 rfl ?_
  refine s_names (pc := 20) C E hq (by omega) dX6_takes_20 ?_
  refine x_aload_n (pc := 21) C 0 dX6_takes_21 rfl ?_
  refine x_iload (pc := 22) C 4 dX6_takes_22 rfl ?_
  refine x_iload (pc := 24) C 5 dX6_takes_24 rfl ?_
  refine x_iload (pc := 26) C 6 dX6_takes_26 rfl ?_
  refine x_callV (pc := 28) C E [.int x4, .int x5, .int x6] [] (c_X6_nameRest t _ hq _ _ _) m_X6_nameRest q24_11 (xo_Rule hq) rfl (by decide) (Nat.le_of_ble_eq_true rfl) dX6_takes_28 rfl (k_U ?_)
  show XV κ (xP (wC t) (mu6 M q x1 x2 x3 x4 x5 x6)) 31 _ _
  refine x_aload_n (pc := 31) C 0 dX6_takes_31 rfl ?_
  refine x_iconst (pc := 32) (v := (nI 0)) C dX6_takes_32 (by decide) ?_
  refine x_callV (pc := 33) C E [.int (nI 0)] [] (c_X6_answer t _ hq (e := e) (fun k hk => (congrFun (mu6_o M q _ _ _ _ _ _ (show 21 + 5 * q ≠ 22 + 5 * q by omega)) k).trans (he k hk)) he3 (p := 0) (by decide)) m_X6_answer q24_15 (xo_Rule hq) rfl (by decide) (Nat.le_of_ble_eq_true rfl) dX6_takes_33 rfl (fun r M33 hc => ?_)
  obtain ⟨rfl, hJ⟩ := hc
  have hE2 := (evJ_nm (S := M (20 + 5 * q)) (s0 := M (23 + 5 * q)) (f := evF e 0) (n := e 0 - evF e 0) (fun k hk => mu6_s M q x1 x2 x3 x4 x5 x6 hk)).trans (hE _ _)
  rw [mu6_o M q _ _ _ _ _ _ (show 20 + 5 * q ≠ 22 + 5 * q by omega), mu6_o M q _ _ _ _ _ _ (show 23 + 5 * q ≠ 22 + 5 * q by omega), hE2]
  show XV κ (xP (wC t) M33) 36 _ [.int (Ev (nm6 x1 x2 x3 x4 x5 x6))]
  refine x_if_eq (pc := 36) C 43 dX6_takes_36 (by decide) (fun h36 => ?_) (fun h36 => ?_)
  · refine x_iconst (pc := 43) (v := 0) C dX6_takes_43 rfl ?_
    exact x_bret (pc := 44) C X (b := false) rfl dX6_takes_44 ⟨by simp [h36], mu6_J.tr hJ⟩
  · refine x_iconst (pc := 39) (v := 1) C dX6_takes_39 rfl ?_
    refine x_goto (pc := 40) C 44 dX6_takes_40 (by decide) ?_
    exact x_bret (pc := 44) C X (b := true) rfl dX6_takes_44 ⟨by simp [h36], mu6_J.tr hJ⟩

def clampI (m x : Int32) : Int32 := if (0 : Int32) < (if x < m then x else m) then (if x < m then x else m) else 0
set_option maxRecDepth 100000 in
set_option maxHeartbeats 4000000 in
theorem c_X6_likelihood (t : CT) (M : MM) {q : Nat} (hq : q < 7) {e : Nat → Nat} (he : ∀ k, k < 3 → M (21 + 5 * q) k = nI (e k)) (he3 : ∀ k, k < 3 → e k ≤ 160) {Ev : (Nat → Int32) → Int32} (hE : ∀ nm s0, evJ (M (20 + 5 * q)) nm s0 (evF e 1) (e 1 - evF e 1) = Ev nm) (x1 x2 : Int32) : XMet (wC t) yX6_likelihood cX6_likelihood 3 (some .int) 4 [.ref (t.1 (19 + 5 * q)), .int x1, .int x2] M (fun r M' => r = some (.int (clampI 100 (Ev (nm6 0 0 0 x1 0 x2)))) ∧ Jk q M M') := by
  refine x_met RX6 (by decide) rfl (Nat.le_of_ble_eq_true rfl) (fun κ C X E => ?_)
  refine x_L (L' := [(0, .ref (t.1 (19 + 5 * q))), (1, .int x1), (2, .int x2)]) rfl ?_
  refine x_aload_n (pc := 0) C 0 dX6_likelihood_0 rfl ?_
  refine x_callV (pc := 1) C E [] [] (c_X6_nameNothingThere t _ hq) m_X6_nameNothingThere q24_7 (xo_Rule hq) rfl (by decide) (Nat.le_of_ble_eq_true rfl) dX6_likelihood_1 rfl (k_U ?_)
  refine x_aload_n (pc := 4) C 0 dX6_likelihood_4 rfl ?_
  refine x_iload_n (pc := 5) C 1 dX6_likelihood_5 rfl ?_
  refine x_iconst (pc := 6) (v := 0) C dX6_likelihood_6 rfl ?_
  refine x_iload_n (pc := 7) C 2 dX6_likelihood_7 rfl ?_
  refine x_callV (pc := 8) C E [.int x1, .int 0, .int x2] [] (c_X6_nameRest t _ hq _ _ _) m_X6_nameRest q24_11 (xo_Rule hq) rfl (by decide) (Nat.le_of_ble_eq_true rfl) dX6_likelihood_8 rfl (k_U ?_)
  show XV κ (xP (wC t) (mu6 M q 0 0 0 x1 0 x2)) 11 _ _
  refine x_iconst (pc := 11) (v := 0) C dX6_likelihood_11 rfl ?_
  refine x_bipush (pc := 12) (v := 100) C dX6_likelihood_12 rfl ?_
  refine x_aload_n (pc := 14) C 0 dX6_likelihood_14 rfl ?_
  refine x_iconst (pc := 15) (v := (nI 1)) C dX6_likelihood_15 (by decide) ?_
  refine x_callV (pc := 16) C E [.int (nI 1)] [.int 100, .int 0] (c_X6_answer t _ hq (e := e) (fun k hk => (congrFun (mu6_o M q _ _ _ _ _ _ (show 21 + 5 * q ≠ 22 + 5 * q by omega)) k).trans (he k hk)) he3 (p := 1) (by decide)) m_X6_answer q24_15 (xo_Rule hq) rfl (by decide) (Nat.le_of_ble_eq_true rfl) dX6_likelihood_16 rfl (fun r M16 hc => ?_)
  obtain ⟨rfl, hJ⟩ := hc
  have hE2 := (evJ_nm (S := M (20 + 5 * q)) (s0 := M (23 + 5 * q)) (f := evF e 1) (n := e 1 - evF e 1) (fun k hk => mu6_s M q 0 0 0 x1 0 x2 hk)).trans (hE _ _)
  rw [mu6_o M q _ _ _ _ _ _ (show 20 + 5 * q ≠ 22 + 5 * q by omega), mu6_o M q _ _ _ _ _ _ (show 23 + 5 * q ≠ 22 + 5 * q by omega), hE2]
  show XV κ (xP (wC t) M16) 19 _ [.int (Ev (nm6 0 0 0 x1 0 x2)), .int 100, .int 0]
  refine x_mmin (pc := 19) C (by decide) q24_0 q24_1 q24_2 q24_3 (Nat.le_of_ble_eq_true rfl) dX6_likelihood_19 ?_
  refine x_mmax (pc := 22) C (by decide) q24_4 q24_5 q24_2 q24_6 (Nat.le_of_ble_eq_true rfl) dX6_likelihood_22 ?_
  exact x_iret (pc := 25) C X dX6_likelihood_25 ⟨rfl, mu6_J.tr hJ⟩

set_option maxRecDepth 100000 in
set_option maxHeartbeats 4000000 in
theorem c_X6_worth (t : CT) (M : MM) {q : Nat} (hq : q < 7) {e : Nat → Nat} (he : ∀ k, k < 3 → M (21 + 5 * q) k = nI (e k)) (he3 : ∀ k, k < 3 → e k ≤ 160) {Ev : (Nat → Int32) → Int32} (hE : ∀ nm s0, evJ (M (20 + 5 * q)) nm s0 (evF e 2) (e 2 - evF e 2) = Ev nm) (x1 x2 : Int32) : XMet (wC t) yX6_worth cX6_worth 3 (some .int) 4 [.ref (t.1 (19 + 5 * q)), .int x1, .int x2] M (fun r M' => r = some (.int (clampI 99 (Ev (nm6 0 0 0 0 x1 x2)))) ∧ Jk q M M') := by
  refine x_met RX6 (by decide) rfl (Nat.le_of_ble_eq_true rfl) (fun κ C X E => ?_)
  refine x_L (L' := [(0, .ref (t.1 (19 + 5 * q))), (1, .int x1), (2, .int x2)]) rfl ?_
  refine x_aload_n (pc := 0) C 0 dX6_worth_0 rfl ?_
  refine x_callV (pc := 1) C E [] [] (c_X6_nameNothingThere t _ hq) m_X6_nameNothingThere q24_7 (xo_Rule hq) rfl (by decide) (Nat.le_of_ble_eq_true rfl) dX6_worth_1 rfl (k_U ?_)
  refine x_aload_n (pc := 4) C 0 dX6_worth_4 rfl ?_
  refine x_iconst (pc := 5) (v := 0) C dX6_worth_5 rfl ?_
  refine x_iload_n (pc := 6) C 1 dX6_worth_6 rfl ?_
  refine x_iload_n (pc := 7) C 2 dX6_worth_7 rfl ?_
  refine x_callV (pc := 8) C E [.int 0, .int x1, .int x2] [] (c_X6_nameRest t _ hq _ _ _) m_X6_nameRest q24_11 (xo_Rule hq) rfl (by decide) (Nat.le_of_ble_eq_true rfl) dX6_worth_8 rfl (k_U ?_)
  show XV κ (xP (wC t) (mu6 M q 0 0 0 0 x1 x2)) 11 _ _
  refine x_iconst (pc := 11) (v := 0) C dX6_worth_11 rfl ?_
  refine x_bipush (pc := 12) (v := 99) C dX6_worth_12 rfl ?_
  refine x_aload_n (pc := 14) C 0 dX6_worth_14 rfl ?_
  refine x_iconst (pc := 15) (v := (nI 2)) C dX6_worth_15 (by decide) ?_
  refine x_callV (pc := 16) C E [.int (nI 2)] [.int 99, .int 0] (c_X6_answer t _ hq (e := e) (fun k hk => (congrFun (mu6_o M q _ _ _ _ _ _ (show 21 + 5 * q ≠ 22 + 5 * q by omega)) k).trans (he k hk)) he3 (p := 2) (by decide)) m_X6_answer q24_15 (xo_Rule hq) rfl (by decide) (Nat.le_of_ble_eq_true rfl) dX6_worth_16 rfl (fun r M16 hc => ?_)
  obtain ⟨rfl, hJ⟩ := hc
  have hE2 := (evJ_nm (S := M (20 + 5 * q)) (s0 := M (23 + 5 * q)) (f := evF e 2) (n := e 2 - evF e 2) (fun k hk => mu6_s M q 0 0 0 0 x1 x2 hk)).trans (hE _ _)
  rw [mu6_o M q _ _ _ _ _ _ (show 20 + 5 * q ≠ 22 + 5 * q by omega), mu6_o M q _ _ _ _ _ _ (show 23 + 5 * q ≠ 22 + 5 * q by omega), hE2]
  show XV κ (xP (wC t) M16) 19 _ [.int (Ev (nm6 0 0 0 0 x1 x2)), .int 99, .int 0]
  refine x_mmin (pc := 19) C (by decide) q24_0 q24_1 q24_2 q24_3 (Nat.le_of_ble_eq_true rfl) dX6_worth_19 ?_
  refine x_mmax (pc := 22) C (by decide) q24_4 q24_5 q24_2 q24_6 (Nat.le_of_ble_eq_true rfl) dX6_worth_22 ?_
  exact x_iret (pc := 25) C X dX6_worth_25 ⟨rfl, mu6_J.tr hJ⟩

