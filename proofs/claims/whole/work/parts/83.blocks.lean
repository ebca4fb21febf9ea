/-! the blocks that the constructors make -/
theorem fS_n {f : Nat → va_E} {k x : Nat} {e : va_E} (h : x ≠ k) : fS f k e x = f x := if_neg h
theorem fS_s {f : Nat → va_E} {k : Nat} {e : va_E} : fS f k e k = e := if_pos rfl
def qA (z : Nat) (c : Nat → Nat) (n : Nat) : Nat → Option Nat := fun q => if q < n then some (z + c q) else none
theorem qA_0 (z : Nat) (c : Nat → Nat) : (fun _ => none) = qA z c 0 := funext fun _ => (if_neg (Nat.not_lt_zero _)).symm
theorem qA_up (z : Nat) (c : Nat → Nat) (i : Nat) : va_up (qA z c i) i (some (z + c i)) = qA z c (i + 1) := by
  funext q
  unfold va_up qA
  by_cases h : q = i
  · rw [if_pos h, if_pos (by omega), h]
  · rw [if_neg h]
    by_cases g : q < i
    · rw [if_pos g, if_pos (by omega)]
    · rw [if_neg g, if_neg (by omega)]
def fD (cI : ClassId) (z : Nat) (f : Nat → va_E) (j k : Nat) : Nat → va_E := fun x => if x = j then .inr (2, [.ref (z + k), .int 0, .int 0, .int 0, .ref (z + (k + 1)), .ref (z + (k + 2))]) else if x = k then .inr (3, [.int 0]) else if x = k + 1 then .inl (cI, 8, .inl (fun _ => 0)) else if x = k + 2 then .inl (cI, 8, .inl (fun _ => 0)) else f x
def fU (cI : ClassId) (z : Nat) (f : Nat → va_E) (j k : Nat) : Nat → va_E := fun x => if x = j then .inr (6, [.ref (z + k), .ref (z + (k + 1)), .ref (z + (k + 2)), .ref (z + (k + 3)), .int 0, .int 0]) else if x = k then .inl (cI, 160, .inl (fun _ => 0)) else if x = k + 1 then .inl (cI, 3, .inl (fun _ => 0)) else if x = k + 2 then .inl (cI, 6, .inl (fun _ => 0)) else if x = k + 3 then .inl (cI, 32, .inl (fun _ => 0)) else f x
def fH (cI : ClassId) (z : Nat) (f : Nat → va_E) (j k : Nat) : Nat → va_E := fun x => if x = j then .inr (8, [.ref (z + k), .int (-1), .int 0]) else if x = k then .inl (cI, 40, .inl (fun _ => 0)) else f x
def fT (cI : ClassId) (z : Nat) (f : Nat → va_E) (j k : Nat) : Nat → va_E := fun x => if x = j then .inr (9, [.ref (z + k), .ref (z + (k + 1)), .int 0, .int 0, .int 0, .int 0, .int 0]) else if x = k then .inl (cI, 160, .inl (fun _ => 0)) else fU cI z f (k + 1) (k + 2) x
def dkL (cI : ClassId) (z a r : Nat) : va_E := if r = 0 then .inr (2, [.ref (z + (a + 1)), .int 0, .int 0, .int 0, .ref (z + (a + 2)), .ref (z + (a + 3))]) else if r = 1 then .inr (3, [.int 0]) else .inl (cI, 8, .inl (fun _ => 0))
def fW (cI cD : ClassId) (z : Nat) (f : Nat → va_E) (j k i : Nat) : Nat → va_E := fun x => if x = j then .inr (10, [.int 0, .int 0, .int 0, .ref (z + k)]) else if x < k then f x else if x = k then .inl (cD, 6, .inr (.inr (.inr (.inr (qA z (fun q => k + 1 + 4 * q) i))))) else dkL cI z (k + 1 + 4 * ((x - (k + 1)) / 4)) ((x - (k + 1)) % 4)
theorem fW_step {cI cD : ClassId} {z : Nat} {f : Nat → va_E} {j k i : Nat} (hj : j < k) (e : va_E) (x : Nat) (hx : x < k + 1 + 4 * i + 1 + 3) : fS (fD cI z (fS (fW cI cD z f j k i) (k + 1 + 4 * i) e) (k + 1 + 4 * i) (k + 1 + 4 * i + 1)) k (.inl (cD, 6, .inr (.inr (.inr (.inr (va_up (qA z (fun q => k + 1 + 4 * q) i) i (some (z + (k + 1 + 4 * i))))))))) x = fW cI cD z f j k (i + 1) x := by
  by_cases h1 : x = k
  · subst h1
    rw [fS_s]
    unfold fW
    rw [if_neg (by omega), if_neg (by omega), if_pos rfl, qA_up z (fun q => x + 1 + 4 * q) i]
  rw [fS_n h1]
  unfold fD
  by_cases h2 : x = k + 1 + 4 * i
  · subst h2
    rw [if_pos rfl]
    unfold fW
    rw [if_neg (by omega), if_neg (by omega), if_neg (by omega), show (k + 1 + 4 * i - (k + 1)) / 4 = i by omega, show (k + 1 + 4 * i - (k + 1)) % 4 = 0 by omega]
    rfl
  rw [if_neg h2]
  by_cases h3 : x = k + 1 + 4 * i + 1
  · subst h3
    rw [if_pos rfl]
    unfold fW
    rw [if_neg (by omega), if_neg (by omega), if_neg (by omega), show (k + 1 + 4 * i + 1 - (k + 1)) % 4 = 1 by omega]
    rfl
  rw [if_neg h3]
  by_cases h4 : x = k + 1 + 4 * i + 1 + 1
  · subst h4
    rw [if_pos rfl]
    unfold fW
    rw [if_neg (by omega), if_neg (by omega), if_neg (by omega), show (k + 1 + 4 * i + 1 + 1 - (k + 1)) % 4 = 2 by omega]
    rfl
  rw [if_neg h4]
  by_cases h5 : x = k + 1 + 4 * i + 1 + 2
  · subst h5
    rw [if_pos rfl]
    unfold fW
    rw [if_neg (by omega), if_neg (by omega), if_neg (by omega), show (k + 1 + 4 * i + 1 + 2 - (k + 1)) % 4 = 3 by omega]
    rfl
  rw [if_neg h5, fS_n h2]
  unfold fW
  rw [if_neg h1, if_neg h1]
theorem yX_as {κ : XK} {z : Nat} {X : State → Heap → Prop} {EN CN : String} (h : yX κ z X) (hc : ∀ U H, X U H → ∀ comp c0 : ClassId, U.vm.findClass EN = some comp → U.vm.findClass CN = some c0 → U.vm.assignable c0 comp = true) : xAs κ EN CN := by
  obtain ⟨p, l, e, R, s, m, args, below, meth, c, Q, A, nL, cells, slots⟩ := κ
  exact hc _ _ (h.1 s s.heap [] (State.WarmedH.refl s) va_S.rf)
theorem y_post {D : va_G} {tys : List (ClassId × FieldType)} {z : Nat} {X : State → Heap → Prop} {y : MethodName} {cc : ByteArray} {nL d nc ns : Nat} {av : List Value} {k k' : Nat} {f f' g : Nat → va_E} (h : YMet D tys z X y cc nL d nc ns av k f k' f') (hg : ∀ x, x < k' → f' x = g x) : YMet D tys z X y cc nL d nc ns av k f k' g := fun l =>
  Jvm.Free.MetFree.mono (h l) (fun _ _ h => h) (fun _ _ _ _ _ h => h) (fun _ _ _ _ _ hh => by
    obtain ⟨⟨e, hP, hF⟩, h2⟩ := hh
    exact ⟨⟨e, ⟨hP.1, fun j hj => hg j hj ▸ hP.2 j hj⟩, hF⟩, h2⟩)
