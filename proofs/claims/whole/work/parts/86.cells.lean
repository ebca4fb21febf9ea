/-! the class's cells as its constructor makes them: place 0 the object, 1 kinds, 2 texts, 3 sheets, 4 tape, 11, 37, 63 worlds, 89 before, 90 kinds, 96 texts, 126 sheets, 134 before -/
def rlL (cI : ClassId) (z a r : Nat) : va_E := if r = 0 then .inr (6, [.ref (z + (a + 1)), .ref (z + (a + 2)), .ref (z + (a + 3)), .ref (z + (a + 4)), .int 0, .int 0]) else .inl (cI, (if r = 1 then 160 else if r = 2 then 3 else if r = 3 then 6 else 32), .inl (fun _ => 0))
def shL (cI : ClassId) (z a r : Nat) : va_E := if r = 0 then .inr (8, [.ref (z + (a + 1)), .int (-1), .int 0]) else .inl (cI, 40, .inl (fun _ => 0))
def tpL (cI : ClassId) (z a r : Nat) : va_E := if r = 0 then .inr (9, [.ref (z + (a + 1)), .ref (z + (a + 2)), .int 0, .int 0, .int 0, .int 0, .int 0]) else if r = 1 then .inl (cI, 160, .inl (fun _ => 0)) else rlL cI z (a + 2) (r - 2)
def wlL (cI cD : ClassId) (z a r : Nat) : va_E := if r = 0 then .inr (10, [.int 0, .int 0, .int 0, .ref (z + (a + 1))]) else if r = 1 then .inl (cD, 6, .inr (.inr (.inr (.inr (qA z (fun q => a + 2 + 4 * q) 6))))) else dkL cI z (a + 2 + 4 * ((r - 2) / 4)) ((r - 2) % 4)
def fZ (q : Nat → ClassId) (z x : Nat) : va_E := if x < 11 then tpL (q 0) z 4 (x - 4) else if x < 37 then wlL (q 0) (q 2) z 11 (x - 11) else if x < 63 then wlL (q 0) (q 2) z 37 (x - 37) else if x < 89 then wlL (q 0) (q 2) z 63 (x - 63) else if x < 96 then .inr ((if x = 90 then 3 else if x = 91 then 0 else if x = 92 then 1 else if x = 93 then 4 else if x = 94 then 7 else 5), [.int (nI (x - 90))]) else if x < 126 then rlL (q 0) z (96 + 5 * ((x - 96) / 5)) ((x - 96) % 5) else if x < 134 then shL (q 0) z (126 + 2 * ((x - 126) / 2)) ((x - 126) % 2) else dkL (q 0) z (134 + 4 * ((x - 134) / 4)) ((x - 134) % 4)
def fG (q : Nat → ClassId) (z : Nat) (fs : List Value) (nk nt ns nb : Nat) : Nat → va_E := fun x => if x = 0 then .inr (11, fs) else if x = 1 then .inl (q 3, 6, .inr (.inr (.inr (.inr (qA z (fun q => 90 + q) nk))))) else if x = 2 then .inl (q 4, 6, .inr (.inr (.inr (.inr (qA z (fun q => 96 + 5 * q) nt))))) else if x = 3 then .inl (q 5, 4, .inr (.inr (.inr (.inr (qA z (fun q => 126 + 2 * q) ns))))) else if x = 89 then .inl (q 2, 3, .inr (.inr (.inr (.inr (qA z (fun q => 134 + 4 * q) nb))))) else fZ q z x
theorem fG_z {q : Nat → ClassId} {z : Nat} {fs : List Value} {nk nt ns nb x : Nat} (h : 4 ≤ x) (h9 : x ≠ 89) : fG q z fs nk nt ns nb x = fZ q z x := by
  unfold fG
  rw [if_neg (by omega), if_neg (by omega), if_neg (by omega), if_neg (by omega), if_neg h9]
theorem fG_0 {q : Nat → ClassId} {z : Nat} {fs fs' : List Value} {nk nt ns nb x : Nat} : fS (fG q z fs nk nt ns nb) 0 (.inr (11, fs')) x = fG q z fs' nk nt ns nb x := by
  by_cases h : x = 0
  · rw [h, fS_s]; rfl
  · rw [fS_n h]; unfold fG; rw [if_neg h, if_neg h]
theorem fG_1 {q : Nat → ClassId} {z : Nat} {fs : List Value} {nk nk' nt ns nb x : Nat} {g : Nat → Option Nat} (hg : g = qA z (fun q => 90 + q) nk') : fS (fG q z fs nk nt ns nb) 1 (.inl (q 3, 6, .inr (.inr (.inr (.inr g))))) x = fG q z fs nk' nt ns nb x := by
  subst hg
  by_cases h : x = 1
  · rw [h, fS_s]; rfl
  · rw [fS_n h]; unfold fG; rw [if_neg h, if_neg h]
theorem fG_2 {q : Nat → ClassId} {z : Nat} {fs : List Value} {nk nt nt' ns nb x : Nat} {g : Nat → Option Nat} (hg : g = qA z (fun q => 96 + 5 * q) nt') : fS (fG q z fs nk nt ns nb) 2 (.inl (q 4, 6, .inr (.inr (.inr (.inr g))))) x = fG q z fs nk nt' ns nb x := by
  subst hg
  by_cases h : x = 2
  · rw [h, fS_s]; rfl
  · rw [fS_n h]; unfold fG; rw [if_neg h, if_neg h]
theorem fG_3 {q : Nat → ClassId} {z : Nat} {fs : List Value} {nk nt ns ns' nb x : Nat} {g : Nat → Option Nat} (hg : g = qA z (fun q => 126 + 2 * q) ns') : fS (fG q z fs nk nt ns nb) 3 (.inl (q 5, 4, .inr (.inr (.inr (.inr g))))) x = fG q z fs nk nt ns' nb x := by
  subst hg
  by_cases h : x = 3
  · rw [h, fS_s]; rfl
  · rw [fS_n h]; unfold fG; rw [if_neg h, if_neg h]
theorem fG_9 {q : Nat → ClassId} {z : Nat} {fs : List Value} {nk nt ns nb nb' x : Nat} {g : Nat → Option Nat} (hg : g = qA z (fun q => 134 + 4 * q) nb') : fS (fG q z fs nk nt ns nb) 89 (.inl (q 2, 3, .inr (.inr (.inr (.inr g))))) x = fG q z fs nk nt ns nb' x := by
  subst hg
  by_cases h : x = 89
  · rw [h, fS_s]; rfl
  · rw [fS_n h]; unfold fG; rw [if_neg h, if_neg h]
/-! blocks, inside and outside -/
section BLK
variable {cI cD : ClassId} {z K x : Nat} {f : Nat → va_E}
theorem fD_o (h : x < K) : fD cI z f K (K + 1) x = f x := by
  unfold fD; rw [if_neg (by omega), if_neg (by omega), if_neg (by omega), if_neg (by omega)]
theorem fU_o {j k : Nat} (h : x < j) (h2 : x < k) : fU cI z f j k x = f x := by
  unfold fU; rw [if_neg (by omega), if_neg (by omega), if_neg (by omega), if_neg (by omega), if_neg (by omega)]
theorem fH_o (h : x < K) : fH cI z f K (K + 1) x = f x := by
  unfold fH; rw [if_neg (by omega), if_neg (by omega)]
theorem fT_o (h : x < K) : fT cI z f K (K + 1) x = f x := by
  unfold fT; rw [if_neg (by omega), if_neg (by omega), fU_o (by omega) (by omega)]
theorem fW_o (h : x < K) : fW cI cD z f K (K + 1) 6 x = f x := by
  unfold fW; rw [if_neg (by omega), if_pos (by omega)]
theorem fD_i (h : K ≤ x) (h2 : x < K + 4) : fD cI z f K (K + 1) x = dkL cI z K (x - K) := by
  unfold fD dkL
  by_cases h0 : x = K
  · subst h0; rw [if_pos rfl, if_pos (show x - x = 0 by omega)]
  rw [if_neg h0, if_neg (show ¬ x - K = 0 by omega)]
  by_cases h1 : x = K + 1
  · rw [if_pos h1, if_pos (show x - K = 1 by omega)]
  rw [if_neg h1, if_neg (show ¬ x - K = 1 by omega)]
  by_cases h3 : x = K + 1 + 1
  · rw [if_pos h3]
  rw [if_neg h3, if_pos (show x = K + 1 + 2 by omega)]
theorem fU_i (h : K ≤ x) (h2 : x < K + 5) : fU cI z f K (K + 1) x = rlL cI z K (x - K) := by
  unfold fU rlL
  by_cases h0 : x = K
  · subst h0; rw [if_pos rfl, if_pos (show x - x = 0 by omega)]
  rw [if_neg h0, if_neg (show ¬ x - K = 0 by omega)]
  by_cases h1 : x = K + 1
  · rw [if_pos h1, if_pos (show x - K = 1 by omega)]
  rw [if_neg h1, if_neg (show ¬ x - K = 1 by omega)]
  by_cases h3 : x = K + 1 + 1
  · rw [if_pos h3, if_pos (show x - K = 2 by omega)]
  rw [if_neg h3, if_neg (show ¬ x - K = 2 by omega)]
  by_cases h4 : x = K + 1 + 2
  · rw [if_pos h4, if_pos (show x - K = 3 by omega)]
  rw [if_neg h4, if_pos (show x = K + 1 + 3 by omega), if_neg (show ¬ x - K = 3 by omega)]
theorem fH_i (h : K ≤ x) (h2 : x < K + 2) : fH cI z f K (K + 1) x = shL cI z K (x - K) := by
  unfold fH shL
  by_cases h0 : x = K
  · subst h0; rw [if_pos rfl, if_pos (show x - x = 0 by omega)]
  rw [if_neg h0, if_pos (show x = K + 1 by omega), if_neg (show ¬ x - K = 0 by omega)]
theorem fT_i (h : K ≤ x) (h2 : x < K + 7) : fT cI z f K (K + 1) x = tpL cI z K (x - K) := by
  unfold fT tpL
  by_cases h0 : x = K
  · subst h0; rw [if_pos rfl, if_pos (show x - x = 0 by omega)]
  rw [if_neg h0, if_neg (show ¬ x - K = 0 by omega)]
  by_cases h1 : x = K + 1
  · rw [if_pos h1, if_pos (show x - K = 1 by omega)]
  rw [if_neg h1, if_neg (show ¬ x - K = 1 by omega), show K + 1 + 1 = K + 2 from rfl, fU_i (K := K + 2) (by omega) (by omega), Nat.sub_sub]
theorem fW_i (h : K ≤ x) : fW cI cD z f K (K + 1) 6 x = wlL cI cD z K (x - K) := by
  unfold fW wlL
  by_cases h0 : x = K
  · subst h0; rw [if_pos rfl, if_pos (show x - x = 0 by omega)]
  rw [if_neg h0, if_neg (show ¬ x < K + 1 by omega), if_neg (show ¬ x - K = 0 by omega)]
  by_cases h1 : x = K + 1
  · rw [if_pos h1, if_pos (show x - K = 1 by omega)]
  rw [if_neg h1, if_neg (show ¬ x - K = 1 by omega), show x - K - 2 = x - (K + 1 + 1) by omega]
end BLK
/-! what the tables and the machine say, for the class's constructor -/
def asg (EN CN : String) (U : State) : Prop := ∀ comp c0 : ClassId, U.vm.findClass EN = some comp → U.vm.findClass CN = some c0 → U.vm.assignable c0 comp = true
def aoN (CN : String) (c : ClassId) (U : State) : Prop := U.vm.findClass ("[" ++ (FieldType.object CN).toString) = some c ∧ va_AO CN U
def yHU (q : Nat → ClassId) (U : State) : Prop := U.vm.findClass "[I" = some (q 0) ∧ aoN RX2 (q 2) U ∧ aoN RX3 (q 3) U ∧ aoN RX6 (q 4) U ∧ aoN RX8 (q 5) U ∧ asg RX2 RX2 U ∧ asg RX6 RX6 U ∧ asg RX8 RX8 U ∧ asg RX3 RX3 U ∧ asg RX3 RX0 U ∧ asg RX3 RX1 U ∧ asg RX3 RX4 U ∧ asg RX3 RX7 U ∧ asg RX3 RX5 U
def yH (X : State → Heap → Prop) (tys : List (ClassId × FieldType)) (q : Nat → ClassId) : Prop := (∀ U H, X U H → yHU q U) ∧ tys[1]? = some (q 2, .object RX2) ∧ tys[2]? = some (q 3, .object RX3) ∧ tys[3]? = some (q 4, .object RX6) ∧ tys[4]? = some (q 5, .object RX8)
