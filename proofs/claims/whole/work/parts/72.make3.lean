/-! making: a field is laid -/
theorem y_put {κ : XK} {own : String} {cc : ByteArray} {n d pc : Nat} {L : List (Nat × Value)} {st : List Value} {D : va_G} {tys : List (ClassId × FieldType)} {z k j : Nat} {f : Nat → va_E} (C : XC κ own cc n d) (E : xYE κ D tys z) {CN ref : String} {T : u_T} {N ci index : Nat} {fs : List Value} (k0 : Nat) (ty0 : Nat → FieldType) (hty : ∀ k, k < N → parseFieldDescriptor (T k).2.2.1 = some (ty0 k)) (hnm : ∀ a, a < N → ∀ b, b < N → a ≠ b → (T a).2.1 ≠ (T b).2.1) (hj : j < k) (hc : f j = .inr (ci, fs)) (hcl : vwCl[ci]? = some (CN, T, N)) (hin : ∀ q ∈ u_ws CN T N, q ∈ wsL_law) (hk : k0 < N) (hlink : Cond.fieldLink own index ref (T k0).2.1 (T k0).2.2.1 ∈ wsL_law) (href : (T k0).1 = ref) (hfin : (T k0).2.2.2 = false) {ty : FieldType} {v : Value} (hd0 : parseFieldDescriptor (T k0).2.2.1 = some ty) (hnw : narrow ty v = v) (hfit : fits ty v = true) (hlf : k0 < fs.length) (hd : decode cc pc = .ok (.putfield index, 3))
    (kk : XV κ (YP D z k (fS f j (.inr (ci, fs.set k0 v)))) (pc + 3) L st) : XV κ (YP D z k f) pc L (v :: .ref (z + j) :: st) := by
  obtain ⟨p, l, e, R, s, m, args, below, meth, c, Q, A, nL, cells, slots⟩ := κ
  intro H locs ls hI hS hl
  have hts := C.2.2.2.2.1
  have hap := va_apart (own := own) hts hin ty0 hty hnm E.1 hcl
  have hat := hI.2 j hj
  rw [hc] at hat
  obtain ⟨r, h1, cell, q1, q2, q3, q4⟩ := hat
  have hr : r = (CN, T, N) := Option.some.inj (h1.symm.trans hcl)
  subst hr
  obtain ⟨hSl, hfc, kC, hkC, hkind⟩ := E.1.1 ci _ hcl
  obtain ⟨cf, kf, fi, fd, hi, hsl⟩ := hSl k0 hk
  have hlay := hts _ (hin _ (u_in_lay hk))
  unfold u_lay at hlay
  rw [if_neg (by rw [hfin]; decide)] at hlay
  have hst := (u_facts hfc hkC (u_lays hts hin hk) hi).1
  have h6 := u_store hfc hkC hkind hlay hi hd0 hnw hfit
  refine W.putK C.1 C.2.1 (f := fd) ⟨C.2.2.2.1, hts _ hlink, ⟨_, _, _, by rw [← href]; exact hi⟩, hst⟩ (by rw [q2]; exact h6) q1 q3 (by rw [hsl]; exact k2_hasslot (q4 k0 hk)) rfl rfl hd fun H' e1 e2 e3 => ?_
  rw [hsl] at e1 ⊢
  exact kk H' _ ls (YP_set hI hj e2 e3 ⟨_, hcl, t_OB.to (V := updV (vp_V fs) k0 v) ⟨_, e1, q2, q3, t_set q4 hap hk v⟩ (fun j _ => vp_updV_set hlf v j)⟩) (hS.put e2 e3 (E.2 _ (Nat.le_add_right _ _))) hl
/-- a final field, in its constructor -/
def xIni (κ : XK) : Prop := match κ with
  | (_, _, _, _, _, _, _, _, meth, _, _, _, _, _, _) => meth.name = "<init>"
theorem kA_I {κ : XK} {a b : Nat} (h : xIni κ) : xIni (kA κ a b) := by
  obtain ⟨p, l, e, R, s, m, args, below, meth, c, Q, A, nL, cells, slots⟩ := κ
  exact h
theorem y_putF {κ : XK} {own : String} {cc : ByteArray} {n d pc : Nat} {L : List (Nat × Value)} {st : List Value} {D : va_G} {tys : List (ClassId × FieldType)} {z k j : Nat} {f : Nat → va_E} (C : XC κ own cc n d) (E : xYE κ D tys z) (hini : xIni κ) {CN ref : String} {T : u_T} {N ci index : Nat} {fs : List Value} (k0 : Nat) (ty0 : Nat → FieldType) (hty : ∀ k, k < N → parseFieldDescriptor (T k).2.2.1 = some (ty0 k)) (hnm : ∀ a, a < N → ∀ b, b < N → a ≠ b → (T a).2.1 ≠ (T b).2.1) (hj : j < k) (hc : f j = .inr (ci, fs)) (hcl : vwCl[ci]? = some (CN, T, N)) (hin : ∀ q ∈ u_ws CN T N, q ∈ wsL_law) (hk : k0 < N) (hlink : Cond.fieldLink own index ref (T k0).2.1 (T k0).2.2.1 ∈ wsL_law) (href : (T k0).1 = ref) (hown : (T k0).1 = own) (hfin : (T k0).2.2.2 = true) {ty : FieldType} {v : Value} (hd0 : parseFieldDescriptor (T k0).2.2.1 = some ty) (hnw : narrow ty v = v) (hfit : fits ty v = true) (hlf : k0 < fs.length) (hd : decode cc pc = .ok (.putfield index, 3))
    (kk : XV κ (YP D z k (fS f j (.inr (ci, fs.set k0 v)))) (pc + 3) L st) : XV κ (YP D z k f) pc L (v :: .ref (z + j) :: st) := by
  obtain ⟨p, l, e, R, s, m, args, below, meth, c, Q, A, nL, cells, slots⟩ := κ
  intro H locs ls hI hS hl
  have hts := C.2.2.2.2.1
  have hap := va_apart (own := own) hts hin ty0 hty hnm E.1 hcl
  have hat := hI.2 j hj
  rw [hc] at hat
  obtain ⟨r, h1, cell, q1, q2, q3, q4⟩ := hat
  have hr : r = (CN, T, N) := Option.some.inj (h1.symm.trans hcl)
  subst hr
  obtain ⟨hSl, hfc, kC, hkC, hkind⟩ := E.1.1 ci _ hcl
  obtain ⟨cf, kf, fi, fd, hi, hsl⟩ := hSl k0 hk
  have hlay := hts _ (hin _ (u_in_lay hk))
  unfold u_lay at hlay
  rw [if_pos hfin] at hlay
  have hst := (u_facts hfc hkC (u_lays hts hin hk) hi).1
  have hcf : m.cls = cf := by
    obtain ⟨_, _, c', _, _, _, -, -, hf', -, -, -, hown2, -⟩ := Cond.laysFinal_spec hlay
    have e1 : c' = cf := by have := hi.symm.trans hf'; simp at this; exact this.1.symm
    rw [hown] at hown2
    rw [← e1]; exact Option.some.inj (C.2.2.2.1.symm.trans hown2)
  have h6 := u_fits hfc hkC hkind (Or.inr hlay) hi hd0 hnw hfit
  refine W.putFinK C.1 C.2.1 C.2.2.2.1 (hts _ hlink) (by rw [← href]; exact hi) hst hcf hini (by rw [q2]; exact h6) q1 q3 (by rw [hsl]; exact k2_hasslot (q4 k0 hk)) rfl rfl hd fun H' e1 e2 e3 => ?_
  rw [hsl] at e1 ⊢
  exact kk H' _ ls (YP_set hI hj e2 e3 ⟨_, hcl, t_OB.to (V := updV (vp_V fs) k0 v) ⟨_, e1, q2, q3, t_set q4 hap hk v⟩ (fun j _ => vp_updV_set hlf v j)⟩) (hS.put e2 e3 (E.2 _ (Nat.le_add_right _ _))) hl
