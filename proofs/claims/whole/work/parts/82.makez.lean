/-! making, bundled: what a walk of a constructor carries along, whatever it has made so far -/
def yQP (P : Heap → Prop) (z : Nat) : Array Value → State → Outcome → State → Prop := fun _ st oc t => oc = .returned none ∧ P t.heap ∧ va_F (fun q => z ≤ q) st t
def yRP (κ : XK) (z : Nat) (P : Heap → Prop) (nc ns : Nat) : Prop := match κ with
  | (_, _, _, _, s, _, args, below, meth, _, Q, A, _, _, _) => meth.sig.returnType = none ∧ meth.locks = false ∧ Q = MQ below (yQP P z) args s nc ns A ∧ A = (fun q => z ≤ q)
def ZMet (D : va_G) (tys : List (ClassId × FieldType)) (z : Nat) (X : State → Heap → Prop) (y : MethodName) (cc : ByteArray) (nL d nc ns : Nat) (av : List Value) (k : Nat) (f : Nat → va_E) (P : Heap → Prop) : Prop :=
  ∀ l : Launch, Met l y (Cond.code y cc nL none :: wsL_law) (yRm d nc ns) (va_Pc av (yPre D tys z k f X)) (yQP P z) nc ns (fun q => z ≤ q)
def yF (κ : XK) (own : String) (cc : ByteArray) (n d : Nat) (D : va_G) (tys : List (ClassId × FieldType)) (z : Nat) (X : State → Heap → Prop) (P : Heap → Prop) (nc ns rc rs uc us : Nat) : Prop := XC κ own cc n d ∧ xYE κ D tys z ∧ xIni κ ∧ yRP κ z P nc ns ∧ yX κ z X ∧ xRm κ rc rs ∧ yLe κ uc us
section YF
variable {κ : XK} {own : String} {cc : ByteArray} {n d : Nat} {D : va_G} {tys : List (ClassId × FieldType)} {z : Nat} {X : State → Heap → Prop} {P : Heap → Prop} {nc ns rc rs uc us : Nat} {pc k : Nat} {f : Nat → va_E} {L : List (Nat × Value)} {st : List Value}
theorem yF_kA (F : yF κ own cc n d D tys z X P nc ns rc rs uc us) {a b : Nat} (rc' rs' uc' us' : Nat) (h1 : a + rc' ≤ rc) (h2 : b + rs' ≤ rs) (h3 : uc + a ≤ uc') (h4 : us + b ≤ us') : yF (kA κ a b) own cc n d D tys z X P nc ns rc' rs' uc' us' := by
  obtain ⟨p, l, e, R, s, m, args, below, meth, c, Q, A, nL, cells, slots⟩ := κ
  obtain ⟨C, E, N, R', X', H, L'⟩ := F
  have g1 : cells + rc ≤ R.cells := H.1
  have g2 : slots + rs ≤ R.slots := H.2
  have g3 : cells ≤ uc := L'.1
  have g4 : slots ≤ us := L'.2
  exact ⟨⟨C.1, C.2.1, C.2.2.1, C.2.2.2.1, C.2.2.2.2.1, C.2.2.2.2.2.1, C.2.2.2.2.2.2.1, by show cells + a ≤ R.cells; omega, by show slots + b ≤ R.slots; omega, C.2.2.2.2.2.2.2.2.2⟩, E, N, R', X', ⟨by show cells + a + rc' ≤ R.cells; omega, by show slots + b + rs' ≤ R.slots; omega⟩, ⟨by show cells + a ≤ uc'; omega, by show slots + b ≤ us'; omega⟩⟩
/-- another picture of the same cells -/
theorem y_I {g : Nat → va_E} (h : ∀ j, j < k → f j = g j) (kk : XV κ (YP D z k g) pc L st) : XV κ (YP D z k f) pc L st :=
  x_I (fun _ hI => ⟨hI.1, fun j hj => h j hj ▸ hI.2 j hj⟩) kk
theorem z_newa (F : yF κ own cc n d D tys z X P nc ns rc rs uc us) {N : Nat} {cI : ClassId} (rc' rs' uc' us' : Nat) (hc : ∀ U H, X U H → U.vm.findClass "[I" = some cI) (ha : Cond.arrayClass .int ∈ wsL_law) (hN : N ≤ 3072) (h1 : 1 + rc' ≤ rc) (h2 : N + rs' ≤ rs) (h3 : uc + 1 ≤ uc') (h4 : us + N ≤ us') (hd : decode cc pc = .ok (.newarray .int, 2)) (kk : ∀ κ', yF κ' own cc n d D tys z X P nc ns rc' rs' uc' us' → XV κ' (YP D z (k + 1) (fS f k (.inl (cI, N, .inl (fun _ => 0))))) (pc + 2) L (.ref (z + k) :: st)) : XV κ (YP D z k f) pc L (.int (nI N) :: st) :=
  y_newa F.1 (xRm_le F.2.2.2.2.2.1 (by omega) (by omega)) (yX_ac F.2.2.2.2.1 hc) ha hN hd (kk _ (yF_kA F rc' rs' uc' us' h1 h2 h3 h4))
theorem z_newz (F : yF κ own cc n d D tys z X P nc ns rc rs uc us) {N : Nat} {cI : ClassId} (rc' rs' uc' us' : Nat) (hc : ∀ U H, X U H → U.vm.findClass "[Z" = some cI) (ha : Cond.arrayClass .boolean ∈ wsL_law) (hN : N ≤ 3072) (h1 : 1 + rc' ≤ rc) (h2 : N + rs' ≤ rs) (h3 : uc + 1 ≤ uc') (h4 : us + N ≤ us') (hd : decode cc pc = .ok (.newarray .boolean, 2)) (kk : ∀ κ', yF κ' own cc n d D tys z X P nc ns rc' rs' uc' us' → XV κ' (YP D z (k + 1) (fS f k (.inl (cI, N, .inl (fun _ => 0))))) (pc + 2) L (.ref (z + k) :: st)) : XV κ (YP D z k f) pc L (.int (nI N) :: st) :=
  y_newz F.1 (xRm_le F.2.2.2.2.2.1 (by omega) (by omega)) (yX_ac F.2.2.2.2.1 hc) ha hN hd (kk _ (yF_kA F rc' rs' uc' us' h1 h2 h3 h4))
theorem yX_ao {CN : String} (h : yX κ z X) (hc : ∀ U H, X U H → va_AO CN U) : xAO κ CN := by
  obtain ⟨p, l, e, R, s, m, args, below, meth, c, Q, A, nL, cells, slots⟩ := κ
  exact hc _ _ (h.1 s s.heap [] (State.WarmedH.refl s) va_S.rf)
theorem z_anew (F : yF κ own cc n d D tys z X P nc ns rc rs uc us) {N index : Nat} {CN : String} {cI : ClassId} (rc' rs' uc' us' : Nat) (hc : ∀ U H, X U H → U.vm.findClass ("[" ++ (FieldType.object CN).toString) = some cI) (ho : ∀ U H, X U H → va_AO CN U) (hl0 : Cond.classLink own index CN ∈ wsL_law) (hN : N ≤ 3072) (h1 : 1 + rc' ≤ rc) (h2 : N + rs' ≤ rs) (h3 : uc + 1 ≤ uc') (h4 : us + N ≤ us') (hd : decode cc pc = .ok (.anewarray index, 3)) (kk : ∀ κ', yF κ' own cc n d D tys z X P nc ns rc' rs' uc' us' → XV κ' (YP D z (k + 1) (fS f k (.inl (cI, N, .inr (.inr (.inr (.inr (fun _ => none)))))))) (pc + 3) L (.ref (z + k) :: st)) : XV κ (YP D z k f) pc L (.int (nI N) :: st) :=
  y_anew F.1 (xRm_le F.2.2.2.2.2.1 (by omega) (by omega)) (yX_ac F.2.2.2.2.1 hc) hl0 (yX_ao F.2.2.2.2.1 ho) hN hd (kk _ (yF_kA F rc' rs' uc' us' h1 h2 h3 h4))
theorem z_new (F : yF κ own cc n d D tys z X P nc ns rc rs uc us) {CN : String} {T : u_T} {N ci index : Nat} (rc' rs' uc' us' : Nat) (h1 : 1 + rc' ≤ rc) (h2 : N + rs' ≤ rs) (h3 : uc + 1 ≤ uc') (h4 : us + N ≤ us') (hin : ∀ q ∈ u_ws CN T N, q ∈ wsL_law) (ty : Nat → FieldType) (hty : ∀ k, k < N → parseFieldDescriptor (T k).2.2.1 = some (ty k)) (hcl : vwCl[ci]? = some (CN, T, N)) (g1 : Cond.classLink own index CN ∈ wsL_law) (g2 : Cond.instantiable CN N ∈ wsL_law) (g3 : Cond.initialized CN ∈ wsL_law) {fs : List Value} (hfs : ∀ j, j < N → defaultValue (ty j) = vp_V fs j) (hd : decode cc pc = .ok (.new index, 3))
    (kk : ∀ κ', yF κ' own cc n d D tys z X P nc ns rc' rs' uc' us' → XV κ' (YP D z (k + 1) (fS f k (.inr (ci, fs)))) (pc + 3) L (.ref (z + k) :: st)) : XV κ (YP D z k f) pc L st :=
  y_new F.1 F.2.1 (xRm_le F.2.2.2.2.2.1 (by omega) (by omega)) hin ty hty hcl g1 g2 g3 hfs hd (kk _ (yF_kA F rc' rs' uc' us' h1 h2 h3 h4))
theorem z_call (F : yF κ own cc n d D tys z X P nc ns rc rs uc us) {y : MethodName} {cy : ByteArray} {ny d' np nc' ns' index j k' : Nat} {f' : Nat → va_E} (rc' rs' uc' us' : Nat) (As rest : List Value) (hM : YMet D tys z X y cy ny d' nc' ns' (.ref (z + j) :: As) k f k' f') (hy : xCM y cy ny np) (hl0 : Cond.methodLink own index y ∈ wsL_law) (hnp : As.length = np) (hdd : d' < d) (h1 : nc' + rc' ≤ rc) (h2 : ns' + rs' ≤ rs) (h3 : uc + nc' ≤ uc') (h4 : us + ns' ≤ us') (hst : (rest.map fun v => v.category).sum ≤ 8) (hd : decode cc pc = .ok (.invokespecial index, 3)) {st : List Value} (hs : As.reverse ++ .ref (z + j) :: rest = st)
    (kk : ∀ κ', yF κ' own cc n d D tys z X P nc ns rc' rs' uc' us' → XV κ' (YP D z k' f') (pc + 3) L rest) : XV κ (YP D z k f) pc L st :=
  y_callI F.1 F.2.1 F.2.2.2.2.1 As rest hM hy hl0 hnp hdd (xRm_le F.2.2.2.2.2.1 (by omega) (by omega)) hst hd hs (kk _ (yF_kA F rc' rs' uc' us' h1 h2 h3 h4))
theorem z_callN (F : yF κ own cc n d D tys z X P nc ns rc rs uc us) {y : MethodName} {cy : ByteArray} {host : String} {ny d' np nc' ns' index j k' : Nat} {f' : Nat → va_E} (rc' rs' uc' us' : Nat) (As rest : List Value) (hM : YMet D tys z X y cy ny d' nc' ns' (.ref (z + j) :: As) k f k' f') (hy : xCM y cy ny np) (hl0 : Cond.methodLinkNest own index y host ∈ lw_nest) (hnp : As.length = np) (hdd : d' < d) (h1 : nc' + rc' ≤ rc) (h2 : ns' + rs' ≤ rs) (h3 : uc + nc' ≤ uc') (h4 : us + ns' ≤ us') (hst : (rest.map fun v => v.category).sum ≤ 8) (hd : decode cc pc = .ok (.invokespecial index, 3)) {st : List Value} (hs : As.reverse ++ .ref (z + j) :: rest = st)
    (kk : ∀ κ', yF κ' own cc n d D tys z X P nc ns rc' rs' uc' us' → XV κ' (YP D z k' f') (pc + 3) L rest) : XV κ (YP D z k f) pc L st :=
  y_callIN F.1 F.2.1 F.2.2.2.2.1 As rest hM hy hl0 hnp hdd (xRm_le F.2.2.2.2.2.1 (by omega) (by omega)) hst hd hs (kk _ (yF_kA F rc' rs' uc' us' h1 h2 h3 h4))
theorem z_get (F : yF κ own cc n d D tys z X P nc ns rc rs uc us) {CN ref : String} {T : u_T} {N ci index j : Nat} {fs : List Value} (k0 : Nat) (hj : j < k) (hc : f j = .inr (ci, fs)) (hcl : vwCl[ci]? = some (CN, T, N)) (hin : ∀ q ∈ u_ws CN T N, q ∈ wsL_law) (hk : k0 < N) (hlink : Cond.fieldLink own index ref (T k0).2.1 (T k0).2.2.1 ∈ wsL_law) (href : (T k0).1 = ref) {v : Value} (hv : fs[k0]? = some v) (hd : decode cc pc = .ok (.getfield index, 3))
    (kk : XV κ (YP D z k f) (pc + 3) L (v :: st)) : XV κ (YP D z k f) pc L (.ref (z + j) :: st) := by
  obtain ⟨p, l, e, R, s, m, args, below, meth, c, Q, A, nL, cells, slots⟩ := κ
  obtain ⟨C, E, -⟩ := F
  intro H locs ls hI hS hl
  have hat := hI.2 j hj
  rw [hc] at hat
  exact va_get (D := D) (cl := vwCl) (ws := [(z + j, .inr (ci, fs))]) C.1 C.2.1 C.2.2.2.2.1 hin C.2.2.2.1 E.1 (fun k q hk => by
    have hz : k < 1 := (List.getElem?_eq_some_iff.mp hk).1
    rw [show k = 0 by omega] at hk
    cases hk
    exact hat) 0 rfl hcl k0 hk (C.2.2.2.2.1 _ hlink) (fun _ h => by rw [← href]; exact h) hv hd (kk H locs ls hI hS hl)
theorem z_ret (F : yF κ own cc n d D tys z X P nc ns rc rs uc us) {I : Heap → Prop} (hI : ∀ H, I H → P H) (h1 : uc ≤ nc) (h2 : us ≤ ns) (hd : decode cc pc = .ok (.return_, 1)) : XV κ I pc L [] := by
  obtain ⟨p, l, e, R, s, m, args, below, meth, c, Q, A, nL, cells, slots⟩ := κ
  obtain ⟨C, -, -, hR, -, -, hle⟩ := F
  intro H locs ls hI0 hS hl
  obtain ⟨g1, g2, g3, g4⟩ := hR
  subst g3
  have hlocks : meth.locks = false := g2
  have q1 : cells ≤ uc := hle.1
  have q2 : slots ≤ us := hle.2
  refine W.widen (by omega : cells ≤ nc) (by omega : slots ≤ ns) ?_
  exact W.vret C.1 C.2.1 g1 (fun t ht hW => ⟨rfl, by rw [ht]; exact hI _ hI0, by rw [← g4]; exact hS.F ht⟩) hS.2.2 hd
end YF
theorem z_met {D : va_G} {tys : List (ClassId × FieldType)} {z : Nat} {X : State → Heap → Prop} {P : Heap → Prop} {y : MethodName} {cc : ByteArray} {nL d nc ns : Nat} {av : List Value} {k : Nat} {f : Nat → va_E} (own : String) (hy : plainName y.cls = true) (hown : y.cls = own) (hini : y.name = "<init>") (hav : (lg_sl av).length ≤ nL)
    (body : ∀ κ : XK, yF κ own cc nL d D tys z X P nc ns nc ns 0 0 → XV κ (YP D z k f) 0 (lv_args 0 av) []) : ZMet D tys z X y cc nL d nc ns av k f P := by
  intro l
  refine Met.ofW (cc := cc) (maxL := nL) (ret := none) hy rfl ?_
  intro p e s m args below meth c s₁ B hml hv
  obtain ⟨rfl, hP, hK, hX, hN⟩ := hv
  have hts := atoms_spec (ws := Cond.code y cc nL none :: wsL_law) B.pre
  have hown2 : s.vm.findClass own = some m.cls := hown ▸ findClass_of_methodNamed B.named
  have hin : meth.name = "<init>" := ((name_of_methodNamed B.named B.method).1).trans hini
  have hb := body (p, l, e, yRm d nc ns, s, m, av.toArray, below, meth, c, MQ below (yQP P z) av.toArray s nc ns (fun q => z ≤ q), (fun q => z ≤ q), nL, 0, 0)
    ⟨⟨B.exec, B.bytes, hml, hown2, fun q h => hts q (List.mem_cons_of_mem _ h), Nat.le_refl _, Nat.le_refl _, Nat.zero_le _, Nat.zero_le _, rfl⟩, ⟨hK, fun _ h => h⟩, hin, ⟨B.returns, B.notSynchronized, rfl, rfl⟩, ⟨fun U H locs hvm hS => hX U H hvm hS.1 (fun q h1 h2 => hS.2.1 q h1 (by show ¬ z ≤ q; omega)), hN⟩, ⟨by show 0 + nc ≤ nc; omega, by show 0 + ns ≤ ns; omega⟩, ⟨Nat.le_refl _, Nat.le_refl _⟩⟩
  have hl := lv_entry av (n := nL) hav
  rw [lg_entry_eq]
  exact hb s.heap [] _ hP va_S.rf hl
theorem z_Y {D : va_G} {tys : List (ClassId × FieldType)} {z : Nat} {X : State → Heap → Prop} {y : MethodName} {cc : ByteArray} {nL d nc ns : Nat} {av : List Value} {k k' : Nat} {f f' : Nat → va_E} (h : ZMet D tys z X y cc nL d nc ns av k f (YP D z k' f')) : YMet D tys z X y cc nL d nc ns av k f k' f' := h
