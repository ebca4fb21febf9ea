/-! a world of disks: what its methods answer, in the cells' own words -/
def WI (M : MM) (i n : Nat) : Prop := M (7 + i) 2 = nI n ∧ n ≤ 6 ∧ ∀ d, d < n → (M (62 + 3 * (6 * i + d)) 0).toNatClampNeg < 6
def rdM (M : MM) (i d : Nat) : Bool := rdJ M (6 * i + d) (M (7 + i) 0)
def orF (M : MM) (i : Nat) (x : Int32) : Nat → Int32
  | 0 => 0
  | d + 1 => if bt x d then orF M i x d ||| M (62 + 3 * (6 * i + d)) 3 else orF M i x d
def hA (M : MM) (i f : Nat) (x : Int32) : Nat → Int32
  | 0 => x
  | d + 1 => if bt (M (62 + 3 * (6 * i + d)) 3) f then hA M i f x d else hA M i f x d &&& (((1 : Int32) <<< (nI d &&& 31)) ^^^ (-1))
def nhC (M : MM) (i f : Nat) (x : Int32) (d : Nat) (o : Option Nat) : Bool := bt x d && (match o with | none => true | some e => decide (M (64 + 3 * (6 * i + e)) f < M (64 + 3 * (6 * i + d)) f))
def nhM (M : MM) (i f : Nat) (x : Int32) : Nat → Option Nat
  | 0 => none
  | d + 1 => if nhC M i f x d (nhM M i f x d) then some d else nhM M i f x d
def encO (o : Option Nat) : Int32 := match o with
  | none => -1
  | some d => nI d
theorem nhM_lt {M : MM} {i f : Nat} {x : Int32} : ∀ {d e : Nat}, nhM M i f x d = some e → e < d := by
  intro d
  induction d with
  | zero => intro e h; simp [nhM] at h
  | succ d ih =>
    intro e h
    unfold nhM at h
    split at h
    · cases h; omega
    · exact Nat.lt_succ_of_lt (ih h)
def anyN (p : Nat → Bool) : Nat → Bool
  | 0 => false
  | n + 1 => anyN p n || p n
theorem anyN_t {p : Nat → Bool} {n d : Nat} (h : d < n) (hp : p d = true) : anyN p n = true := by
  induction n with
  | zero => omega
  | succ n ih =>
    unfold anyN
    by_cases g : d = n
    · subst g; simp [hp]
    · simp [ih (by omega)]
theorem anyN_of {p : Nat → Bool} {n : Nat} (h : anyN p n = true) : ∃ d, d < n ∧ p d = true := by
  induction n with
  | zero => simp [anyN] at h
  | succ n ih =>
    unfold anyN at h
    rcases Bool.or_eq_true_iff.mp h with g | g
    · obtain ⟨d, h1, h2⟩ := ih g; exact ⟨d, by omega, h2⟩
    · exact ⟨n, by omega, g⟩
theorem anyN_f {p : Nat → Bool} {n : Nat} (h : anyN p n = false) {d : Nat} (hd : d < n) : p d = false := by
  cases g : p d with
  | false => rfl
  | true => rw [anyN_t hd g] at h; cases h
theorem anyN_congr {p q : Nat → Bool} {n : Nat} (h : ∀ d, d < n → p d = q d) : anyN p n = anyN q n := by
  induction n with
  | zero => rfl
  | succ n ih => unfold anyN; rw [ih (fun d hd => h d (by omega)), h n (by omega)]
def auF (M : MM) (i f : Nat) (x : Int32) : Nat → Int32
  | 0 => -1
  | d + 1 => if bt x d && decide (auF M i f x d = -1) then M (63 + 3 * (6 * i + d)) f else auF M i f x d
def auX (M : MM) (i f : Nat) (x : Int32) (d : Nat) : Bool := bt x d && !decide (auF M i f x d = -1) && !decide (auF M i f x d = M (63 + 3 * (6 * i + d)) f)
def hoM (M : MM) (i n f : Nat) : Int32 := hA M i f (mk (rdM M i) n) n
def duM (M : MM) (i n f : Nat) : Bool := anyN (auX M i f (hoM M i n f)) n
def sfM (M : MM) (i n : Nat) (k : Int32) (f : Nat) : Bool := decide (k ≤ jbc (hoM M i n f))
def ccM (M : MM) (i : Nat) : Nat → Int32
  | 0 => 0
  | d + 1 => ccM M i d + jbc (M (62 + 3 * (6 * i + d)) 3)
/-- world i as world i2 is, the first d disks -/
def wBecN (M : MM) (i i2 d : Nat) : MM := fun a b =>
  if a = 7 + i ∧ b < 3 then M (7 + i2) b
  else if 62 + 18 * i ≤ a ∧ a < 62 + 18 * i + 3 * d ∧ b < (if (a - 62) % 3 = 0 then 4 else 8) then M (a - 18 * i + 18 * i2) b
  else M a b
def cpC (P : MM) (i a b f : Nat) (Ev : (Nat → Int32) → Int32) : Bool := bt (P (62 + 3 * (6 * i + a)) 3) f && (tiJ P (6 * i + b) f && decide (Ev (nm6 (P (64 + 3 * (6 * i + b)) f) (P (64 + 3 * (6 * i + a)) f) (b2i (decide (P (63 + 3 * (6 * i + a)) f = P (63 + 3 * (6 * i + b)) f))) (P (62 + 3 * (6 * i + b)) 1) (nI f) (P (7 + i) 0)) ≠ 0))
def cpD (P : MM) (i a b f : Nat) : MM := dPut P (6 * i + b) f (P (63 + 3 * (6 * i + a)) f) (P (64 + 3 * (6 * i + a)) f)
/-- the copy of one disk onto another, f by f: the memory, how many came -/
def cpN (M : MM) (i a b : Nat) (Ev : (Nat → Int32) → Int32) : Nat → MM × Nat
  | 0 => (M, 0)
  | f + 1 => if cpC (cpN M i a b Ev f).1 i a b f Ev then (cpD (cpN M i a b Ev f).1 i a b f, (cpN M i a b Ev f).2 + 1) else cpN M i a b Ev f
theorem cpN_t {M : MM} {i a b f : Nat} {Ev : (Nat → Int32) → Int32} (h : cpC (cpN M i a b Ev f).1 i a b f Ev = true) : cpN M i a b Ev (f + 1) = (cpD (cpN M i a b Ev f).1 i a b f, (cpN M i a b Ev f).2 + 1) := by
  rw [cpN, if_pos h]
theorem cpN_f {M : MM} {i a b f : Nat} {Ev : (Nat → Int32) → Int32} (h : cpC (cpN M i a b Ev f).1 i a b f Ev = false) : cpN M i a b Ev (f + 1) = cpN M i a b Ev f := by
  rw [cpN, if_neg (by rw [h]; decide)]
theorem dPut_o {M : MM} {j f : Nat} {c s : Int32} {x y : Nat} (h : (x ≠ 63 + 3 * j) ∧ (x ≠ 64 + 3 * j) ∧ (x ≠ 62 + 3 * j ∨ y ≠ 3)) : dPut M j f c s x y = M x y := by
  unfold dPut
  rw [mu_at, if_neg (by omega), mu_n _ _ _ _ h.2.1, mu_n _ _ _ _ h.1]
theorem cpN_o {M : MM} {i a b : Nat} {Ev : (Nat → Int32) → Int32} {x y : Nat} (h : (x ≠ 63 + 3 * (6 * i + b)) ∧ (x ≠ 64 + 3 * (6 * i + b)) ∧ (x ≠ 62 + 3 * (6 * i + b) ∨ y ≠ 3)) : ∀ f, (cpN M i a b Ev f).1 x y = M x y := by
  intro f
  induction f with
  | zero => rfl
  | succ f ih =>
    rw [cpN]
    split
    · exact (dPut_o h).trans ih
    · exact ih
theorem dPut_J {q : Nat} {A B : MM} (hJ : Jk q A B) (hq : q < 7) {j f : Nat} (c s : Int32) : Jk q (dPut A j f c s) (dPut B j f c s) := by
  intro x y h1 h2 h3
  unfold dPut
  rw [mu_at, mu_at, mu_at, mu_at, mu_at, mu_at, hJ _ _ h1 h2 h3, hJ (62 + 3 * j) 0 (by omega) (by omega) (by omega), hJ (62 + 3 * j) 3 (by omega) (by omega) (by omega)]

set_option maxRecDepth 100000 in
set_option maxHeartbeats 4000000 in
theorem c_X10_readers (t : CT) (M : MM) {i : Nat} (hi : i < 3) {n : Nat} (hW : WI M i n)  : XMet (wC t) yX10_readers cX10_readers 3 (some .int) 5 [.ref (t.1 (7 + i))] M (rI (mk (rdM M i) n) M) := by
  refine x_met RX10 (by decide) rfl (Nat.le_of_ble_eq_true rfl) (fun κ C X E => ?_)
  refine x_L (L' := [(0, .ref (t.1 (7 + i)))]) rfl ?_
  obtain ⟨hn, h6, hk⟩ := id hW
  refine x_iconst (pc := 0) (v := 0) C dX10_readers_0 rfl ?_
  refine x_istore_n (pc := 1) (L' := [(1, .int (nI 0)), (0, .ref (t.1 (7 + i)))]) C dX10_readers_1 (by decide) rfl ?_
  refine x_iconst (pc := 2) (v := (nI 0)) C dX10_readers_2 (by decide) ?_
  refine x_istore_n (pc := 3) (L' := [(2, .int (nI 0)), (1, .int (nI 0)), (0, .ref (t.1 (7 + i)))]) C dX10_readers_3 (by decide) rfl ?_
  have loop4 : ∀ (k d : Nat) (x : Int32) (y : Int32) , d + k = n → x = mk (rdM M i) d → y = nI d → XV κ (xP (wC t) M) 4 [(2, .int y), (1, .int x), (0, .ref (t.1 (7 + i)))] [] := by
    intro k
    induction k with
      | zero =>
        intro d x y  hcnt ex ey
        subst ex
        subst ey
        obtain rfl : n = d := by omega
        refine x_iload_n (pc := 4) C 0 dX10_readers_4 rfl ?_
        refine x_aload_n (pc := 5) C 2 dX10_readers_5 rfl ?_
        refine g_World_size (pc := 6) C E hi q12_22 dX10_readers_6 ?_
        refine x_eq (show M (7 + i) 2 = nI n from hn) ?_
        refine x_icmp_ge_t (pc := 9) C 40 dX10_readers_9 (by decide) (nI_le (by omega) (by omega)) ?_
        refine x_iload_n (pc := 40) C 1 dX10_readers_40 rfl ?_
        exact x_iret (pc := 41) C X dX10_readers_41 (rI_i rfl)
      | succ k ih =>
        intro d x y  hcnt ex ey
        subst ex
        subst ey
        have hi4 : d < n := by omega
        refine x_iload_n (pc := 4) C 0 dX10_readers_4 rfl ?_
        refine x_aload_n (pc := 5) C 2 dX10_readers_5 rfl ?_
        refine g_World_size (pc := 6) C E hi q12_22 dX10_readers_6 ?_
        refine x_eq (show M (7 + i) 2 = nI n from hn) ?_
        refine x_icmp_ge_f (pc := 9) C 40 dX10_readers_9 (by decide) (nI_ge (by omega) (by omega)) ?_
        refine x_aload_n (pc := 12) C 2 dX10_readers_12 rfl ?_
        refine g_World_disks (pc := 13) C E hi q4_3 dX10_readers_13 ?_
        refine x_iload_n (pc := 16) C 0 dX10_readers_16 rfl ?_
        refine l_disks (pc := 17) C E hi (by omega) dX10_readers_17 ?_
        refine x_aload_n (pc := 18) C 2 dX10_readers_18 rfl ?_
        refine g_World_day (pc := 19) C E hi q30_0 dX10_readers_19 ?_
        refine x_callV (pc := 22) C E [.int (M (7 + i) 0)] [] (c_X2_readsOn t _ (by omega) (hk d (by omega)) _) m_X2_readsOn q30_1 (xo_Disk (by omega)) rfl (by decide) (Nat.le_of_ble_eq_true rfl) dX10_readers_22 rfl (k_I ?_)
        refine x_ifb_eq (pc := 25) C 34 dX10_readers_25 (by decide) (fun h25 => ?_) (fun h25 => ?_)
        · refine x_iinc (pc := 34) (v := nI (d + 1)) (L' := [(2, .int (nI (d + 1))), (1, .int (mk (rdM M i) d)), (0, .ref (t.1 (7 + i)))]) C 0 dX10_readers_34 rfl (nI_1 _) (by decide) rfl ?_
          refine x_goto (pc := 37) C 4 dX10_readers_37 (by decide) ?_
          refine x_sub [0, 1, 2] rfl ?_
          exact ih (d + 1) _ _ (by omega) (by first | exact (mk_f (p := rdM M i) h25).symm | exact mk_t (p := rdM M i) h25) rfl
        · refine x_iload_n (pc := 28) C 1 dX10_readers_28 rfl ?_
          refine x_iconst (pc := 29) (v := 1) C dX10_readers_29 rfl ?_
          refine x_iload_n (pc := 30) C 0 dX10_readers_30 rfl ?_
          refine x_ishl (pc := 31) C dX10_readers_31 ?_
          refine x_ior (pc := 32) C dX10_readers_32 ?_
          refine x_istore_n (pc := 33) (L' := [(1, .int ((mk (rdM M i) d) ||| (1 <<< ((nI d) &&& 31)))), (2, .int (nI d)), (0, .ref (t.1 (7 + i)))]) C dX10_readers_33 (by decide) rfl ?_
          refine x_iinc (pc := 34) (v := nI (d + 1)) (L' := [(2, .int (nI (d + 1))), (1, .int ((mk (rdM M i) d) ||| (1 <<< ((nI d) &&& 31)))), (0, .ref (t.1 (7 + i)))]) C 1 dX10_readers_34 rfl (nI_1 _) (by decide) rfl ?_
          refine x_goto (pc := 37) C 4 dX10_readers_37 (by decide) ?_
          refine x_sub [0, 1, 2] rfl ?_
          exact ih (d + 1) _ _ (by omega) (by first | exact (mk_f (p := rdM M i) h25).symm | exact mk_t (p := rdM M i) h25) rfl
  refine x_sub [0, 1, 2] rfl ?_
  exact loop4 n 0 _ _ (by omega) rfl rfl

set_option maxRecDepth 100000 in
set_option maxHeartbeats 4000000 in
theorem c_X10_filesOn (t : CT) (M : MM) {i : Nat} (hi : i < 3) {n : Nat} (hW : WI M i n) (x1 : Int32) : XMet (wC t) yX10_filesOn cX10_filesOn 4 (some .int) 2 [.ref (t.1 (7 + i)), .int x1] M (rI (orF M i x1 n) M) := by
  refine x_met RX10 (by decide) rfl (Nat.le_of_ble_eq_true rfl) (fun κ C X E => ?_)
  refine x_L (L' := [(0, .ref (t.1 (7 + i))), (1, .int x1)]) rfl ?_
  obtain ⟨hn, h6, hk⟩ := id hW
  refine x_iconst (pc := 0) (v := 0) C dX10_filesOn_0 rfl ?_
  refine x_istore_n (pc := 1) (L' := [(2, .int 0), (0, .ref (t.1 (7 + i))), (1, .int x1)]) C dX10_filesOn_1 (by decide) rfl ?_
  refine x_iconst (pc := 2) (v := (nI 0)) C dX10_filesOn_2 (by decide) ?_
  refine x_istore_n (pc := 3) (L' := [(3, .int (nI 0)), (2, .int 0), (0, .ref (t.1 (7 + i))), (1, .int x1)]) C dX10_filesOn_3 (by decide) rfl ?_
  have loop4 : ∀ (k d : Nat) (x : Int32) (y : Int32) , d + k = n → x = orF M i x1 d → y = nI d → XV κ (xP (wC t) M) 4 [(3, .int y), (2, .int x), (0, .ref (t.1 (7 + i))), (1, .int x1)] [] := by
    intro k
    induction k with
      | zero =>
        intro d x y  hcnt ex ey
        subst ex
        subst ey
        obtain rfl : n = d := by omega
        refine x_iload_n (pc := 4) C 0 dX10_filesOn_4 rfl ?_
        refine x_aload_n (pc := 5) C 2 dX10_filesOn_5 rfl ?_
        refine g_World_size (pc := 6) C E hi q12_22 dX10_filesOn_6 ?_
        refine x_eq (show M (7 + i) 2 = nI n from hn) ?_
        refine x_icmp_ge_t (pc := 9) C 38 dX10_filesOn_9 (by decide) (nI_le (by omega) (by omega)) ?_
        refine x_iload_n (pc := 38) C 1 dX10_filesOn_38 rfl ?_
        exact x_iret (pc := 39) C X dX10_filesOn_39 (rI_i rfl)
      | succ k ih =>
        intro d x y  hcnt ex ey
        subst ex
        subst ey
        have hi4 : d < n := by omega
        refine x_iload_n (pc := 4) C 0 dX10_filesOn_4 rfl ?_
        refine x_aload_n (pc := 5) C 2 dX10_filesOn_5 rfl ?_
        refine g_World_size (pc := 6) C E hi q12_22 dX10_filesOn_6 ?_
        refine x_eq (show M (7 + i) 2 = nI n from hn) ?_
        refine x_icmp_ge_f (pc := 9) C 38 dX10_filesOn_9 (by decide) (nI_ge (by omega) (by omega)) ?_
        refine x_iload_n (pc := 12) C 3 dX10_filesOn_12 rfl ?_
        refine x_iload_n (pc := 13) C 0 dX10_filesOn_13 rfl ?_
        refine x_callSN (host := RX11) (pc := 14) C E [.int x1, .int (nI d)] [] (c_X11_isIn t _ _ (by omega)) m_X11_isIn (by simp [lw_nest]) rfl (by decide) (Nat.le_of_ble_eq_true rfl) dX10_filesOn_14 rfl (k_I ?_)
        refine x_ifb_eq (pc := 17) C 32 dX10_filesOn_17 (by decide) (fun h17 => ?_) (fun h17 => ?_)
        · refine x_iinc (pc := 32) (v := nI (d + 1)) (L' := [(3, .int (nI (d + 1))), (2, .int (orF M i x1 d)), (0, .ref (t.1 (7 + i))), (1, .int x1)]) C 0 dX10_filesOn_32 rfl (nI_1 _) (by decide) rfl ?_
          refine x_goto (pc := 35) C 4 dX10_filesOn_35 (by decide) ?_
          refine x_sub [0, 1, 2, 3] rfl ?_
          exact ih (d + 1) _ _ (by omega) (by simp [orF, h17]) rfl
        · refine x_iload_n (pc := 20) C 1 dX10_filesOn_20 rfl ?_
          refine x_aload_n (pc := 21) C 2 dX10_filesOn_21 rfl ?_
          refine g_World_disks (pc := 22) C E hi q4_3 dX10_filesOn_22 ?_
          refine x_iload_n (pc := 25) C 0 dX10_filesOn_25 rfl ?_
          refine l_disks (pc := 26) C E hi (by omega) dX10_filesOn_26 ?_
          refine g_Disk_held (pc := 27) C E (by omega) q30_6 dX10_filesOn_27 ?_
          refine x_ior (pc := 30) C dX10_filesOn_30 ?_
          refine x_istore_n (pc := 31) (L' := [(2, .int ((orF M i x1 d) ||| (M (62 + 3 * (6 * i + d)) 3))), (3, .int (nI d)), (0, .ref (t.1 (7 + i))), (1, .int x1)]) C dX10_filesOn_31 (by decide) rfl ?_
          refine x_iinc (pc := 32) (v := nI (d + 1)) (L' := [(3, .int (nI (d + 1))), (2, .int ((orF M i x1 d) ||| (M (62 + 3 * (6 * i + d)) 3))), (0, .ref (t.1 (7 + i))), (1, .int x1)]) C 1 dX10_filesOn_32 rfl (nI_1 _) (by decide) rfl ?_
          refine x_goto (pc := 35) C 4 dX10_filesOn_35 (by decide) ?_
          refine x_sub [0, 1, 2, 3] rfl ?_
          exact ih (d + 1) _ _ (by omega) (by simp [orF, h17]) rfl
  refine x_sub [0, 1, 2, 3] rfl ?_
  exact loop4 n 0 _ _ (by omega) rfl rfl

set_option maxRecDepth 100000 in
set_option maxHeartbeats 4000000 in
theorem c_X10_holdersAmong (t : CT) (M : MM) {i : Nat} (hi : i < 3) {n : Nat} (hW : WI M i n) (x1 : Int32) {f : Nat} (hf : f < 8) : XMet (wC t) yX10_holdersAmong cX10_holdersAmong 5 (some .int) 2 [.ref (t.1 (7 + i)), .int x1, .int (nI f)] M (rI (hA M i f x1 n) M) := by
  refine x_met RX10 (by decide) rfl (Nat.le_of_ble_eq_true rfl) (fun κ C X E => ?_)
  refine x_L (L' := [(0, .ref (t.1 (7 + i))), (1, .int x1), (2, .int (nI f))]) rfl ?_
  obtain ⟨hn, h6, hk⟩ := id hW
  refine x_iload_n (pc := 0) C 1 dX10_holdersAmong_0 rfl ?_
  refine x_istore_n (pc := 1) (L' := [(3, .int x1), (0, .ref (t.1 (7 + i))), (1, .int x1), (2, .int (nI f))]) C dX10_holdersAmong_1 (by decide) rfl ?_
  refine x_iconst (pc := 2) (v := (nI 0)) C dX10_holdersAmong_2 (by decide) ?_
  refine x_istore (pc := 3) (L' := [(4, .int (nI 0)), (3, .int x1), (0, .ref (t.1 (7 + i))), (1, .int x1), (2, .int (nI f))]) C dX10_holdersAmong_3 (by decide) rfl ?_
  have loop5 : ∀ (k d : Nat) (x : Int32) (y : Int32) , d + k = n → x = hA M i f x1 d → y = nI d → XV κ (xP (wC t) M) 5 [(4, .int y), (3, .int x), (0, .ref (t.1 (7 + i))), (1, .int x1), (2, .int (nI f))] [] := by
    intro k
    induction k with
      | zero =>
        intro d x y  hcnt ex ey
        subst ex
        subst ey
        obtain rfl : n = d := by omega
        refine x_iload (pc := 5) C 0 dX10_holdersAmong_5 rfl ?_
        refine x_aload_n (pc := 7) C 2 dX10_holdersAmong_7 rfl ?_
        refine g_World_size (pc := 8) C E hi q12_22 dX10_holdersAmong_8 ?_
        refine x_eq (show M (7 + i) 2 = nI n from hn) ?_
        refine x_icmp_ge_t (pc := 11) C 44 dX10_holdersAmong_11 (by decide) (nI_le (by omega) (by omega)) ?_
        refine x_iload_n (pc := 44) C 1 dX10_holdersAmong_44 rfl ?_
        exact x_iret (pc := 45) C X dX10_holdersAmong_45 (rI_i rfl)
      | succ k ih =>
        intro d x y  hcnt ex ey
        subst ex
        subst ey
        have hi5 : d < n := by omega
        refine x_iload (pc := 5) C 0 dX10_holdersAmong_5 rfl ?_
        refine x_aload_n (pc := 7) C 2 dX10_holdersAmong_7 rfl ?_
        refine g_World_size (pc := 8) C E hi q12_22 dX10_holdersAmong_8 ?_
        refine x_eq (show M (7 + i) 2 = nI n from hn) ?_
        refine x_icmp_ge_f (pc := 11) C 44 dX10_holdersAmong_11 (by decide) (nI_ge (by omega) (by omega)) ?_
        refine x_aload_n (pc := 14) C 2 dX10_holdersAmong_14 rfl ?_
        refine g_World_disks (pc := 15) C E hi q4_3 dX10_holdersAmong_15 ?_
        refine x_iload (pc := 18) C 0 dX10_holdersAmong_18 rfl ?_
        refine l_disks (pc := 20) C E hi (by omega) dX10_holdersAmong_20 ?_
        refine g_Disk_held (pc := 21) C E (by omega) q30_6 dX10_holdersAmong_21 ?_
        refine x_iload_n (pc := 24) C 4 dX10_holdersAmong_24 rfl ?_
        refine x_callSN (host := RX11) (pc := 25) C E [.int (M (62 + 3 * (6 * i + d)) 3), .int (nI f)] [] (c_X11_isIn t _ _ (by omega)) m_X11_isIn (by simp [lw_nest]) rfl (by decide) (Nat.le_of_ble_eq_true rfl) dX10_holdersAmong_25 rfl (k_I ?_)
        refine x_ifb_ne (pc := 28) C 38 dX10_holdersAmong_28 (by decide) (fun h28 => ?_) (fun h28 => ?_)
        · refine x_iinc (pc := 38) (v := nI (d + 1)) (L' := [(4, .int (nI (d + 1))), (3, .int (hA M i f x1 d)), (0, .ref (t.1 (7 + i))), (1, .int x1), (2, .int (nI f))]) C 0 dX10_holdersAmong_38 rfl (nI_1 _) (by decide) rfl ?_
          refine x_goto (pc := 41) C 5 dX10_holdersAmong_41 (by decide) ?_
          refine x_sub [0, 1, 2, 3, 4] rfl ?_
          exact ih (d + 1) _ _ (by omega) (by simp [hA, h28]) rfl
        · refine x_iload_n (pc := 31) C 1 dX10_holdersAmong_31 rfl ?_
          refine x_iload (pc := 32) C 0 dX10_holdersAmong_32 rfl ?_
          refine x_callSN (host := RX11) (pc := 34) C E [.int (hA M i f x1 d), .int (nI d)] [] (c_X11_without t _ _ _) m_X11_without (by simp [lw_nest]) rfl (by decide) (Nat.le_of_ble_eq_true rfl) dX10_holdersAmong_34 rfl (k_I ?_)
          refine x_istore_n (pc := 37) (L' := [(3, .int ((hA M i f x1 d) &&& ((1 <<< ((nI d) &&& 31)) ^^^ (-1)))), (4, .int (nI d)), (0, .ref (t.1 (7 + i))), (1, .int x1), (2, .int (nI f))]) C dX10_holdersAmong_37 (by decide) rfl ?_
          refine x_iinc (pc := 38) (v := nI (d + 1)) (L' := [(4, .int (nI (d + 1))), (3, .int ((hA M i f x1 d) &&& ((1 <<< ((nI d) &&& 31)) ^^^ (-1)))), (0, .ref (t.1 (7 + i))), (1, .int x1), (2, .int (nI f))]) C 1 dX10_holdersAmong_38 rfl (nI_1 _) (by decide) rfl ?_
          refine x_goto (pc := 41) C 5 dX10_holdersAmong_41 (by decide) ?_
          refine x_sub [0, 1, 2, 3, 4] rfl ?_
          exact ih (d + 1) _ _ (by omega) (by simp [hA, h28]) rfl
  refine x_sub [0, 1, 2, 3, 4] rfl ?_
  exact loop5 n 0 _ _ (by omega) rfl rfl

set_option maxRecDepth 100000 in
set_option maxHeartbeats 4000000 in
theorem c_X10_holders (t : CT) (M : MM) {i : Nat} (hi : i < 3) {n : Nat} (hW : WI M i n) {f : Nat} (hf : f < 8) : XMet (wC t) yX10_holders cX10_holders 2 (some .int) 6 [.ref (t.1 (7 + i)), .int (nI f)] M (rI (hoM M i n f) M) := by
  refine x_met RX10 (by decide) rfl (Nat.le_of_ble_eq_true rfl) (fun κ C X E => ?_)
  refine x_L (L' := [(0, .ref (t.1 (7 + i))), (1, .int (nI f))]) rfl ?_
  obtain ⟨hn, h6, hk⟩ := id hW
  refine x_aload_n (pc := 0) C 0 dX10_holders_0 rfl ?_
  refine x_aload_n (pc := 1) C 0 dX10_holders_1 rfl ?_
  refine x_callV (pc := 2) C E [] [.ref (t.1 (7 + i))] (c_X10_readers t _ hi hW) m_X10_readers q31_16 (xo_World hi) rfl (by decide) (Nat.le_of_ble_eq_true rfl) dX10_holders_2 rfl (k_I ?_)
  refine x_iload_n (pc := 5) C 1 dX10_holders_5 rfl ?_
  refine x_callV (pc := 6) C E [.int (mk (rdM M i) n), .int (nI f)] [] (c_X10_holdersAmong t _ hi hW _ (by omega)) m_X10_holdersAmong q31_20 (xo_World hi) rfl (by decide) (Nat.le_of_ble_eq_true rfl) dX10_holders_6 rfl (k_I ?_)
  exact x_iret (pc := 9) C X dX10_holders_9 (rI_i rfl)

set_option maxRecDepth 100000 in
set_option maxHeartbeats 4000000 in
theorem c_X10_newestHolder (t : CT) (M : MM) {i : Nat} (hi : i < 3) {n : Nat} (hW : WI M i n) {f : Nat} (hf : f < 8) : XMet (wC t) yX10_newestHolder cX10_newestHolder 5 (some .int) 7 [.ref (t.1 (7 + i)), .int (nI f)] M (rI (encO (nhM M i f (hoM M i n f) n)) M) := by
  refine x_met RX10 (by decide) rfl (Nat.le_of_ble_eq_true rfl) (fun κ C X E => ?_)
  refine x_L (L' := [(0, .ref (t.1 (7 + i))), (1, .int (nI f))]) rfl ?_
  obtain ⟨hn, h6, hk⟩ := id hW
  refine x_aload_n (pc := 0) C 0 dX10_newestHolder_0 rfl ?_
  refine x_iload_n (pc := 1) C 1 dX10_newestHolder_1 rfl ?_
  refine x_callV (pc := 2) C E [.int (nI f)] [] (c_X10_holders t _ hi hW (by omega)) m_X10_holders q32_17 (xo_World hi) rfl (by decide) (Nat.le_of_ble_eq_true rfl) dX10_newestHolder_2 rfl (k_I ?_)
  refine x_istore_n (pc := 5) (L' := [(2, .int (hoM M i n f)), (0, .ref (t.1 (7 + i))), (1, .int (nI f))]) C dX10_newestHolder_5 (by decide) rfl ?_
  refine x_iconst (pc := 6) (v := (-1)) C dX10_newestHolder_6 rfl ?_
  refine x_istore_n (pc := 7) (L' := [(3, .int (-1)), (2, .int (hoM M i n f)), (0, .ref (t.1 (7 + i))), (1, .int (nI f))]) C dX10_newestHolder_7 (by decide) rfl ?_
  refine x_iconst (pc := 8) (v := (nI 0)) C dX10_newestHolder_8 (by decide) ?_
  refine x_istore (pc := 9) (L' := [(4, .int (nI 0)), (3, .int (-1)), (2, .int (hoM M i n f)), (0, .ref (t.1 (7 + i))), (1, .int (nI f))]) C dX10_newestHolder_9 (by decide) rfl ?_
  have loop11 : ∀ (k d : Nat) (x : Int32) (y : Int32) , d + k = n → x = encO (nhM M i f (hoM M i n f) d) → y = nI d → XV κ (xP (wC t) M) 11 [(4, .int y), (3, .int x), (2, .int (hoM M i n f)), (0, .ref (t.1 (7 + i))), (1, .int (nI f))] [] := by
    intro k
    induction k with
      | zero =>
        intro d x y  hcnt ex ey
        subst ex
        subst ey
        obtain rfl : n = d := by omega
        refine x_iload (pc := 11) C 0 dX10_newestHolder_11 rfl ?_
        refine x_aload_n (pc := 13) C 3 dX10_newestHolder_13 rfl ?_
        refine g_World_size (pc := 14) C E hi q12_22 dX10_newestHolder_14 ?_
        refine x_eq (show M (7 + i) 2 = nI n from hn) ?_
        refine x_icmp_ge_t (pc := 17) C 69 dX10_newestHolder_17 (by decide) (nI_le (by omega) (by omega)) ?_
        refine x_iload_n (pc := 69) C 1 dX10_newestHolder_69 rfl ?_
        exact x_iret (pc := 70) C X dX10_newestHolder_70 (rI_i rfl)
      | succ k ih =>
        intro d x y  hcnt ex ey
        subst ex
        subst ey
        have hi11 : d < n := by omega
        refine x_iload (pc := 11) C 0 dX10_newestHolder_11 rfl ?_
        refine x_aload_n (pc := 13) C 3 dX10_newestHolder_13 rfl ?_
        refine g_World_size (pc := 14) C E hi q12_22 dX10_newestHolder_14 ?_
        refine x_eq (show M (7 + i) 2 = nI n from hn) ?_
        refine x_icmp_ge_f (pc := 17) C 69 dX10_newestHolder_17 (by decide) (nI_ge (by omega) (by omega)) ?_
        refine x_iload_n (pc := 20) C 2 dX10_newestHolder_20 rfl ?_
        refine x_iload (pc := 21) C 0 dX10_newestHolder_21 rfl ?_
        refine x_callSN (host := RX11) (pc := 23) C E [.int (hoM M i n f), .int (nI d)] [] (c_X11_isIn t _ _ (by omega)) m_X11_isIn (by simp [lw_nest]) rfl (by decide) (Nat.le_of_ble_eq_true rfl) dX10_newestHolder_23 rfl (k_I ?_)
        refine x_ifb_eq (pc := 26) C 63 dX10_newestHolder_26 (by decide) (fun h26 => ?_) (fun h26 => ?_)
        · refine x_iinc (pc := 63) (v := nI (d + 1)) (L' := [(4, .int (nI (d + 1))), (3, .int (encO (nhM M i f (hoM M i n f) d))), (2, .int (hoM M i n f)), (0, .ref (t.1 (7 + i))), (1, .int (nI f))]) C 0 dX10_newestHolder_63 rfl (nI_1 _) (by decide) rfl ?_
          refine x_goto (pc := 66) C 11 dX10_newestHolder_66 (by decide) ?_
          refine x_sub [0, 1, 2, 3, 4] rfl ?_
          exact ih (d + 1) _ _ (by omega) (by first | (simp [nhM, nhC, h26]; done) | (simp [nhM, nhC, h26, ho, encO]; done) | (simp [nhM, nhC, h26, ho, h57, encO]; done) | (simp [nhM, nhC, h26, ho, encO, Int32.not_lt.mpr h57]; done) | (simp [nhM, nhC, h26, ho, encO, Int32.not_le.mp h57]; done)) rfl
        · cases ho : nhM M i f (hoM M i n f) d with
          | none =>
            refine x_L (L' := [(4, .int (nI d)), (3, .int (-1)), (2, .int (hoM M i n f)), (0, .ref (t.1 (7 + i))), (1, .int (nI f))]) rfl ?_
            refine x_iload_n (pc := 29) C 1 dX10_newestHolder_29 rfl ?_
            refine x_iconst (pc := 30) (v := (-1)) C dX10_newestHolder_30 rfl ?_
            refine x_icmp_eq_t (pc := 31) C 60 dX10_newestHolder_31 (by decide) rfl ?_
            refine x_iload (pc := 60) C 0 dX10_newestHolder_60 rfl ?_
            refine x_istore_n (pc := 62) (L' := [(3, .int (nI d)), (4, .int (nI d)), (2, .int (hoM M i n f)), (0, .ref (t.1 (7 + i))), (1, .int (nI f))]) C dX10_newestHolder_62 (by decide) rfl ?_
            refine x_iinc (pc := 63) (v := nI (d + 1)) (L' := [(4, .int (nI (d + 1))), (3, .int (nI d)), (2, .int (hoM M i n f)), (0, .ref (t.1 (7 + i))), (1, .int (nI f))]) C 1 dX10_newestHolder_63 rfl (nI_1 _) (by decide) rfl ?_
            refine x_goto (pc := 66) C 11 dX10_newestHolder_66 (by decide) ?_
            refine x_sub [0, 1, 2, 3, 4] rfl ?_
            exact ih (d + 1) _ _ (by omega) (by first | (simp [nhM, nhC, h26]; done) | (simp [nhM, nhC, h26, ho, encO]; done) | (simp [nhM, nhC, h26, ho, h57, encO]; done) | (simp [nhM, nhC, h26, ho, encO, Int32.not_lt.mpr h57]; done) | (simp [nhM, nhC, h26, ho, encO, Int32.not_le.mp h57]; done)) rfl
          | some e =>
            have hed := nhM_lt ho
            refine x_L (L' := [(4, .int (nI d)), (3, .int (nI e)), (2, .int (hoM M i n f)), (0, .ref (t.1 (7 + i))), (1, .int (nI f))]) rfl ?_
            refine x_iload_n (pc := 29) C 1 dX10_newestHolder_29 rfl ?_
            refine x_iconst (pc := 30) (v := (-1)) C dX10_newestHolder_30 rfl ?_
            refine x_icmp_eq_f (pc := 31) C 60 dX10_newestHolder_31 (by decide) (fun h => absurd (nI_toInt (n := e) (by omega)) (by rw [h]; simp)) ?_
            refine x_aload_n (pc := 34) C 3 dX10_newestHolder_34 rfl ?_
            refine g_World_disks (pc := 35) C E hi q4_3 dX10_newestHolder_35 ?_
            refine x_iload (pc := 38) C 0 dX10_newestHolder_38 rfl ?_
            refine l_disks (pc := 40) C E hi (by omega) dX10_newestHolder_40 ?_
            refine g_Disk_stamps (pc := 41) C E (by omega) q30_8 dX10_newestHolder_41 ?_
            refine x_iload_n (pc := 44) C 4 dX10_newestHolder_44 rfl ?_
            refine l_st (pc := 45) C E (by omega) (by omega) dX10_newestHolder_45 ?_
            refine x_aload_n (pc := 46) C 3 dX10_newestHolder_46 rfl ?_
            refine g_World_disks (pc := 47) C E hi q4_3 dX10_newestHolder_47 ?_
            refine x_iload_n (pc := 50) C 1 dX10_newestHolder_50 rfl ?_
            refine l_disks (pc := 51) C E hi (by omega) dX10_newestHolder_51 ?_
            refine g_Disk_stamps (pc := 52) C E (by omega) q30_8 dX10_newestHolder_52 ?_
            refine x_iload_n (pc := 55) C 4 dX10_newestHolder_55 rfl ?_
            refine l_st (pc := 56) C E (by omega) (by omega) dX10_newestHolder_56 ?_
            refine x_icmp_le (pc := 57) C 63 dX10_newestHolder_57 (by decide) (fun h57 => ?_) (fun h57 => ?_)
            · refine x_iinc (pc := 63) (v := nI (d + 1)) (L' := [(4, .int (nI (d + 1))), (3, .int (nI e)), (2, .int (hoM M i n f)), (0, .ref (t.1 (7 + i))), (1, .int (nI f))]) C 0 dX10_newestHolder_63 rfl (nI_1 _) (by decide) rfl ?_
              refine x_goto (pc := 66) C 11 dX10_newestHolder_66 (by decide) ?_
              refine x_sub [0, 1, 2, 3, 4] rfl ?_
              exact ih (d + 1) _ _ (by omega) (by first | (simp [nhM, nhC, h26]; done) | (simp [nhM, nhC, h26, ho, encO]; done) | (simp [nhM, nhC, h26, ho, h57, encO]; done) | (simp [nhM, nhC, h26, ho, encO, Int32.not_lt.mpr h57]; done) | (simp [nhM, nhC, h26, ho, encO, Int32.not_le.mp h57]; done)) rfl
            · refine x_iload (pc := 60) C 0 dX10_newestHolder_60 rfl ?_
              refine x_istore_n (pc := 62) (L' := [(3, .int (nI d)), (4, .int (nI d)), (2, .int (hoM M i n f)), (0, .ref (t.1 (7 + i))), (1, .int (nI f))]) C dX10_newestHolder_62 (by decide) rfl ?_
              refine x_iinc (pc := 63) (v := nI (d + 1)) (L' := [(4, .int (nI (d + 1))), (3, .int (nI d)), (2, .int (hoM M i n f)), (0, .ref (t.1 (7 + i))), (1, .int (nI f))]) C 1 dX10_newestHolder_63 rfl (nI_1 _) (by decide) rfl ?_
              refine x_goto (pc := 66) C 11 dX10_newestHolder_66 (by decide) ?_
              refine x_sub [0, 1, 2, 3, 4] rfl ?_
              exact ih (d + 1) _ _ (by omega) (by first | (simp [nhM, nhC, h26]; done) | (simp [nhM, nhC, h26, ho, encO]; done) | (simp [nhM, nhC, h26, ho, h57, encO]; done) | (simp [nhM, nhC, h26, ho, encO, Int32.not_lt.mpr h57]; done) | (simp [nhM, nhC, h26, ho, encO, Int32.not_le.mp h57]; done)) rfl
  refine x_sub [0, 1, 2, 3, 4] rfl ?_
  exact loop11 n 0 _ _ (by omega) rfl rfl

set_option maxRecDepth 100000 in
set_option maxHeartbeats 4000000 in
theorem c_X10_areUnlike (t : CT) (M : MM) {i : Nat} (hi : i < 3) {n : Nat} (hW : WI M i n) {f : Nat} (hf : f < 8) (x1 : Int32) : XMet (wC t) yX10_areUnlike cX10_areUnlike 5 (some .boolean) 2 [.ref (t.1 (7 + i)), .int (nI f), .int x1] M (rI (b2i (anyN (auX M i f x1) n)) M) := by
  refine x_met RX10 (by decide) rfl (Nat.le_of_ble_eq_true rfl) (fun κ C X E => ?_)
  refine x_L (L' := [(0, .ref (t.1 (7 + i))), (1, .int (nI f)), (2, .int x1)]) rfl ?_
  obtain ⟨hn, h6, hk⟩ := id hW
  refine x_iconst (pc := 0) (v := (-1)) C dX10_areUnlike_0 rfl ?_
  refine x_istore_n (pc := 1) (L' := [(3, .int (-1)), (0, .ref (t.1 (7 + i))), (1, .int (nI f)), (2, .int x1)]) C dX10_areUnlike_1 (by decide) rfl ?_
  refine x_iconst (pc := 2) (v := (nI 0)) C dX10_areUnlike_2 (by decide) ?_
  refine x_istore (pc := 3) (L' := [(4, .int (nI 0)), (3, .int (-1)), (0, .ref (t.1 (7 + i))), (1, .int (nI f)), (2, .int x1)]) C dX10_areUnlike_3 (by decide) rfl ?_
  have loop5 : ∀ (k d : Nat) (x : Int32) (y : Int32) , d + k = n → x = auF M i f x1 d → y = nI d → anyN (auX M i f x1) d = false → XV κ (xP (wC t) M) 5 [(4, .int y), (3, .int x), (0, .ref (t.1 (7 + i))), (1, .int (nI f)), (2, .int x1)] [] := by
    intro k
    induction k with
      | zero =>
        intro d x y  hcnt ex ey hz
        subst ex
        subst ey
        obtain rfl : n = d := by omega
        refine x_iload (pc := 5) C 0 dX10_areUnlike_5 rfl ?_
        refine x_aload_n (pc := 7) C 2 dX10_areUnlike_7 rfl ?_
        refine g_World_size (pc := 8) C E hi q12_22 dX10_areUnlike_8 ?_
        refine x_eq (show M (7 + i) 2 = nI n from hn) ?_
        refine x_icmp_ge_t (pc := 11) C 68 dX10_areUnlike_11 (by decide) (nI_le (by omega) (by omega)) ?_
        refine x_iconst (pc := 68) (v := 0) C dX10_areUnlike_68 rfl ?_
        exact x_bret (pc := 69) C X (b := false) rfl dX10_areUnlike_69 (rI_b hz.symm)
      | succ k ih =>
        intro d x y  hcnt ex ey hz
        subst ex
        subst ey
        have hi5 : d < n := by omega
        refine x_iload (pc := 5) C 0 dX10_areUnlike_5 rfl ?_
        refine x_aload_n (pc := 7) C 2 dX10_areUnlike_7 rfl ?_
        refine g_World_size (pc := 8) C E hi q12_22 dX10_areUnlike_8 ?_
        refine x_eq (show M (7 + i) 2 = nI n from hn) ?_
        refine x_icmp_ge_f (pc := 11) C 68 dX10_areUnlike_11 (by decide) (nI_ge (by omega) (by omega)) ?_
        refine x_iload_n (pc := 14) C 4 dX10_areUnlike_14 rfl ?_
        refine x_iload (pc := 15) C 0 dX10_areUnlike_15 rfl ?_
        refine x_callSN (host := RX11) (pc := 17) C E [.int x1, .int (nI d)] [] (c_X11_isIn t _ _ (by omega)) m_X11_isIn (by simp [lw_nest]) rfl (by decide) (Nat.le_of_ble_eq_true rfl) dX10_areUnlike_17 rfl (k_I ?_)
        refine x_ifb_eq (pc := 20) C 62 dX10_areUnlike_20 (by decide) (fun h20 => ?_) (fun h20 => ?_)
        · refine x_iinc (pc := 62) (v := nI (d + 1)) (L' := [(4, .int (nI (d + 1))), (3, .int (auF M i f x1 d)), (0, .ref (t.1 (7 + i))), (1, .int (nI f)), (2, .int x1)]) C 0 dX10_areUnlike_62 rfl (nI_1 _) (by decide) rfl ?_
          refine x_goto (pc := 65) C 5 dX10_areUnlike_65 (by decide) ?_
          refine x_sub [0, 1, 2, 3, 4] rfl ?_
          exact ih (d + 1) _ _ (by omega) (by first | (simp [auF, h20]; done) | (simp [auF, h20, h25]; done)) rfl (by unfold anyN; rw [hz]; first | (simp [auX, h20]; done) | (simp [auX, h20, h25]; done) | (simp [auX, h20, h25, h57]; done))
        · refine x_iload_n (pc := 23) C 1 dX10_areUnlike_23 rfl ?_
          refine x_iconst (pc := 24) (v := (-1)) C dX10_areUnlike_24 rfl ?_
          refine x_icmp_ne (pc := 25) C 44 dX10_areUnlike_25 (by decide) (fun h25 => ?_) (fun h25 => ?_)
          · refine x_iload_n (pc := 44) C 1 dX10_areUnlike_44 rfl ?_
            refine x_aload_n (pc := 45) C 2 dX10_areUnlike_45 rfl ?_
            refine g_World_disks (pc := 46) C E hi q4_3 dX10_areUnlike_46 ?_
            refine x_iload (pc := 49) C 0 dX10_areUnlike_49 rfl ?_
            refine l_disks (pc := 51) C E hi (by omega) dX10_areUnlike_51 ?_
            refine g_Disk_contents (pc := 52) C E (by omega) q30_7 dX10_areUnlike_52 ?_
            refine x_iload_n (pc := 55) C 3 dX10_areUnlike_55 rfl ?_
            refine l_ct (pc := 56) C E (by omega) (by omega) dX10_areUnlike_56 ?_
            refine x_icmp_eq (pc := 57) C 62 dX10_areUnlike_57 (by decide) (fun h57 => ?_) (fun h57 => ?_)
            · refine x_iinc (pc := 62) (v := nI (d + 1)) (L' := [(4, .int (nI (d + 1))), (3, .int (auF M i f x1 d)), (0, .ref (t.1 (7 + i))), (1, .int (nI f)), (2, .int x1)]) C 0 dX10_areUnlike_62 rfl (nI_1 _) (by decide) rfl ?_
              refine x_goto (pc := 65) C 5 dX10_areUnlike_65 (by decide) ?_
              refine x_sub [0, 1, 2, 3, 4] rfl ?_
              exact ih (d + 1) _ _ (by omega) (by first | (simp [auF, h20]; done) | (simp [auF, h20, h25]; done)) rfl (by unfold anyN; rw [hz]; first | (simp [auX, h20]; done) | (simp [auX, h20, h25]; done) | (simp [auX, h20, h25, h57]; done))
            · have hX : auX M i f x1 d = true := by simp [auX, h20, h25, h57]
              refine x_iconst (pc := 60) (v := 1) C dX10_areUnlike_60 rfl ?_
              exact x_bret (pc := 61) C X (b := true) rfl dX10_areUnlike_61 (rI_b (anyN_t (by omega) hX).symm)
          · refine x_aload_n (pc := 28) C 2 dX10_areUnlike_28 rfl ?_
            refine g_World_disks (pc := 29) C E hi q4_3 dX10_areUnlike_29 ?_
            refine x_iload (pc := 32) C 0 dX10_areUnlike_32 rfl ?_
            refine l_disks (pc := 34) C E hi (by omega) dX10_areUnlike_34 ?_
            refine g_Disk_contents (pc := 35) C E (by omega) q30_7 dX10_areUnlike_35 ?_
            refine x_iload_n (pc := 38) C 3 dX10_areUnlike_38 rfl ?_
            refine l_ct (pc := 39) C E (by omega) (by omega) dX10_areUnlike_39 ?_
            refine x_istore_n (pc := 40) (L' := [(3, .int (M (63 + 3 * (6 * i + d)) f)), (4, .int (nI d)), (0, .ref (t.1 (7 + i))), (1, .int (nI f)), (2, .int x1)]) C dX10_areUnlike_40 (by decide) rfl ?_
            refine x_goto (pc := 41) C 62 dX10_areUnlike_41 (by decide) ?_
            refine x_iinc (pc := 62) (v := nI (d + 1)) (L' := [(4, .int (nI (d + 1))), (3, .int (M (63 + 3 * (6 * i + d)) f)), (0, .ref (t.1 (7 + i))), (1, .int (nI f)), (2, .int x1)]) C 1 dX10_areUnlike_62 rfl (nI_1 _) (by decide) rfl ?_
            refine x_goto (pc := 65) C 5 dX10_areUnlike_65 (by decide) ?_
            refine x_sub [0, 1, 2, 3, 4] rfl ?_
            exact ih (d + 1) _ _ (by omega) (by first | (simp [auF, h20]; done) | (simp [auF, h20, h25]; done)) rfl (by unfold anyN; rw [hz]; first | (simp [auX, h20]; done) | (simp [auX, h20, h25]; done) | (simp [auX, h20, h25, h57]; done))
  refine x_sub [0, 1, 2, 3, 4] rfl ?_
  exact loop5 n 0 _ _ (by omega) rfl rfl rfl

set_option maxRecDepth 100000 in
set_option maxHeartbeats 4000000 in
theorem c_X10_differing (t : CT) (M : MM) {i : Nat} (hi : i < 3) {n : Nat} (hW : WI M i n)  : XMet (wC t) yX10_differing cX10_differing 4 (some .int) 6 [.ref (t.1 (7 + i))] M (rI (mk (duM M i n) 8) M) := by
  refine x_met RX10 (by decide) rfl (Nat.le_of_ble_eq_true rfl) (fun κ C X E => ?_)
  refine x_L (L' := [(0, .ref (t.1 (7 + i)))]) rfl ?_
  obtain ⟨hn, h6, hk⟩ := id hW
  refine x_aload_n (pc := 0) C 0 dX10_differing_0 rfl ?_
  refine x_callV (pc := 1) C E [] [] (c_X10_readers t _ hi hW) m_X10_readers q31_16 (xo_World hi) rfl (by decide) (Nat.le_of_ble_eq_true rfl) dX10_differing_1 rfl (k_I ?_)
  refine x_istore_n (pc := 4) (L' := [(1, .int (mk (rdM M i) n)), (0, .ref (t.1 (7 + i)))]) C dX10_differing_4 (by decide) rfl ?_
  refine x_iconst (pc := 5) (v := 0) C dX10_differing_5 rfl ?_
  refine x_istore_n (pc := 6) (L' := [(2, .int 0), (1, .int (mk (rdM M i) n)), (0, .ref (t.1 (7 + i)))]) C dX10_differing_6 (by decide) rfl ?_
  refine x_iconst (pc := 7) (v := (nI 0)) C dX10_differing_7 (by decide) ?_
  refine x_istore_n (pc := 8) (L' := [(3, .int (nI 0)), (2, .int 0), (1, .int (mk (rdM M i) n)), (0, .ref (t.1 (7 + i)))]) C dX10_differing_8 (by decide) rfl ?_
  have loop9 : ∀ (k f : Nat) (x : Int32) (y : Int32) , f + k = 8 → x = mk (duM M i n) f → y = nI f → XV κ (xP (wC t) M) 9 [(3, .int y), (2, .int x), (1, .int (mk (rdM M i) n)), (0, .ref (t.1 (7 + i)))] [] := by
    intro k
    induction k with
      | zero =>
        intro f x y  hcnt ex ey
        subst ex
        subst ey
        obtain rfl : 8 = f := by omega
        refine x_iload_n (pc := 9) C 0 dX10_differing_9 rfl ?_
        refine x_bipush (pc := 10) (v := (nI 8)) C dX10_differing_10 (by decide) ?_
        refine x_icmp_ge_t (pc := 12) C 41 dX10_differing_12 (by decide) (nI_le (by omega) (by omega)) ?_
        refine x_iload_n (pc := 41) C 1 dX10_differing_41 rfl ?_
        exact x_iret (pc := 42) C X dX10_differing_42 (rI_i rfl)
      | succ k ih =>
        intro f x y  hcnt ex ey
        subst ex
        subst ey
        have hi9 : f < 8 := by omega
        refine x_iload_n (pc := 9) C 0 dX10_differing_9 rfl ?_
        refine x_bipush (pc := 10) (v := (nI 8)) C dX10_differing_10 (by decide) ?_
        refine x_icmp_ge_f (pc := 12) C 41 dX10_differing_12 (by decide) (nI_ge (by omega) (by omega)) ?_
        refine x_aload_n (pc := 15) C 3 dX10_differing_15 rfl ?_
        refine x_iload_n (pc := 16) C 0 dX10_differing_16 rfl ?_
        refine x_aload_n (pc := 17) C 3 dX10_differing_17 rfl ?_
        refine x_iload_n (pc := 18) C 2 dX10_differing_18 rfl ?_
        refine x_iload_n (pc := 19) C 0 dX10_differing_19 rfl ?_
        refine x_callV (pc := 20) C E [.int (mk (rdM M i) n), .int (nI f)] [.int (nI f), .ref (t.1 (7 + i))] (c_X10_holdersAmong t _ hi hW _ (by omega)) m_X10_holdersAmong q31_20 (xo_World hi) rfl (by decide) (Nat.le_of_ble_eq_true rfl) dX10_differing_20 rfl (k_I ?_)
        refine x_callV (pc := 23) C E [.int (nI f), .int (hA M i f (mk (rdM M i) n) n)] [] (c_X10_areUnlike t _ hi hW (by omega) _) m_X10_areUnlike q33_10 (xo_World hi) rfl (by decide) (Nat.le_of_ble_eq_true rfl) dX10_differing_23 rfl (k_I ?_)
        refine x_ifb_eq (pc := 26) C 35 dX10_differing_26 (by decide) (fun h26 => ?_) (fun h26 => ?_)
        · refine x_iinc (pc := 35) (v := nI (f + 1)) (L' := [(3, .int (nI (f + 1))), (2, .int (mk (duM M i n) f)), (1, .int (mk (rdM M i) n)), (0, .ref (t.1 (7 + i)))]) C 0 dX10_differing_35 rfl (nI_1 _) (by decide) rfl ?_
          refine x_goto (pc := 38) C 9 dX10_differing_38 (by decide) ?_
          refine x_sub [0, 1, 2, 3] rfl ?_
          exact ih (f + 1) _ _ (by omega) (by first | exact (mk_f (p := duM M i n) h26).symm | exact mk_t (p := duM M i n) h26) rfl
        · refine x_iload_n (pc := 29) C 1 dX10_differing_29 rfl ?_
          refine x_iconst (pc := 30) (v := 1) C dX10_differing_30 rfl ?_
          refine x_iload_n (pc := 31) C 0 dX10_differing_31 rfl ?_
          refine x_ishl (pc := 32) C dX10_differing_32 ?_
          refine x_ior (pc := 33) C dX10_differing_33 ?_
          refine x_istore_n (pc := 34) (L' := [(2, .int ((mk (duM M i n) f) ||| (1 <<< ((nI f) &&& 31)))), (3, .int (nI f)), (1, .int (mk (rdM M i) n)), (0, .ref (t.1 (7 + i)))]) C dX10_differing_34 (by decide) rfl ?_
          refine x_iinc (pc := 35) (v := nI (f + 1)) (L' := [(3, .int (nI (f + 1))), (2, .int ((mk (duM M i n) f) ||| (1 <<< ((nI f) &&& 31)))), (1, .int (mk (rdM M i) n)), (0, .ref (t.1 (7 + i)))]) C 1 dX10_differing_35 rfl (nI_1 _) (by decide) rfl ?_
          refine x_goto (pc := 38) C 9 dX10_differing_38 (by decide) ?_
          refine x_sub [0, 1, 2, 3] rfl ?_
          exact ih (f + 1) _ _ (by omega) (by first | exact (mk_f (p := duM M i n) h26).symm | exact mk_t (p := duM M i n) h26) rfl
  refine x_sub [0, 1, 2, 3] rfl ?_
  exact loop9 8 0 _ _ (by omega) rfl rfl

set_option maxRecDepth 100000 in
set_option maxHeartbeats 4000000 in
theorem c_X10_safe (t : CT) (M : MM) {i : Nat} (hi : i < 3) {n : Nat} (hW : WI M i n) (x1 : Int32) : XMet (wC t) yX10_safe cX10_safe 5 (some .int) 6 [.ref (t.1 (7 + i)), .int x1] M (rI (mk (sfM M i n x1) 8) M) := by
  refine x_met RX10 (by decide) rfl (Nat.le_of_ble_eq_true rfl) (fun κ C X E => ?_)
  refine x_L (L' := [(0, .ref (t.1 (7 + i))), (1, .int x1)]) rfl ?_
  obtain ⟨hn, h6, hk⟩ := id hW
  refine x_aload_n (pc := 0) C 0 dX10_safe_0 rfl ?_
  refine x_callV (pc := 1) C E [] [] (c_X10_readers t _ hi hW) m_X10_readers q31_16 (xo_World hi) rfl (by decide) (Nat.le_of_ble_eq_true rfl) dX10_safe_1 rfl (k_I ?_)
  refine x_istore_n (pc := 4) (L' := [(2, .int (mk (rdM M i) n)), (0, .ref (t.1 (7 + i))), (1, .int x1)]) C dX10_safe_4 (by decide) rfl ?_
  refine x_iconst (pc := 5) (v := 0) C dX10_safe_5 rfl ?_
  refine x_istore_n (pc := 6) (L' := [(3, .int 0), (2, .int (mk (rdM M i) n)), (0, .ref (t.1 (7 + i))), (1, .int x1)]) C dX10_safe_6 (by decide) rfl ?_
  refine x_iconst (pc := 7) (v := (nI 0)) C dX10_safe_7 (by decide) ?_
  refine x_istore (pc := 8) (L' := [(4, .int (nI 0)), (3, .int 0), (2, .int (mk (rdM M i) n)), (0, .ref (t.1 (7 + i))), (1, .int x1)]) C dX10_safe_8 (by decide) rfl ?_
  have loop10 : ∀ (k f : Nat) (x : Int32) (y : Int32) , f + k = 8 → x = mk (sfM M i n x1) f → y = nI f → XV κ (xP (wC t) M) 10 [(4, .int y), (3, .int x), (2, .int (mk (rdM M i) n)), (0, .ref (t.1 (7 + i))), (1, .int x1)] [] := by
    intro k
    induction k with
      | zero =>
        intro f x y  hcnt ex ey
        subst ex
        subst ey
        obtain rfl : 8 = f := by omega
        refine x_iload (pc := 10) C 0 dX10_safe_10 rfl ?_
        refine x_bipush (pc := 12) (v := (nI 8)) C dX10_safe_12 (by decide) ?_
        refine x_icmp_ge_t (pc := 14) C 44 dX10_safe_14 (by decide) (nI_le (by omega) (by omega)) ?_
        refine x_iload_n (pc := 44) C 1 dX10_safe_44 rfl ?_
        exact x_iret (pc := 45) C X dX10_safe_45 (rI_i rfl)
      | succ k ih =>
        intro f x y  hcnt ex ey
        subst ex
        subst ey
        have hi10 : f < 8 := by omega
        refine x_iload (pc := 10) C 0 dX10_safe_10 rfl ?_
        refine x_bipush (pc := 12) (v := (nI 8)) C dX10_safe_12 (by decide) ?_
        refine x_icmp_ge_f (pc := 14) C 44 dX10_safe_14 (by decide) (nI_ge (by omega) (by omega)) ?_
        refine x_aload_n (pc := 17) C 3 dX10_safe_17 rfl ?_
        refine x_iload_n (pc := 18) C 2 dX10_safe_18 rfl ?_
        refine x_iload (pc := 19) C 0 dX10_safe_19 rfl ?_
        refine x_callV (pc := 21) C E [.int (mk (rdM M i) n), .int (nI f)] [] (c_X10_holdersAmong t _ hi hW _ (by omega)) m_X10_holdersAmong q31_20 (xo_World hi) rfl (by decide) (Nat.le_of_ble_eq_true rfl) dX10_safe_21 rfl (k_I ?_)
        refine x_callS (pc := 24) C E [.int (hA M i f (mk (rdM M i) n) n)] [] (c_bitCount t _ _) m_J6_bitCount_0f7a4 q34_13 rfl (by decide) (Nat.le_of_ble_eq_true rfl) dX10_safe_24 rfl (k_I ?_)
        refine x_iload_n (pc := 27) C 4 dX10_safe_27 rfl ?_
        refine x_icmp_lt (pc := 28) C 38 dX10_safe_28 (by decide) (fun h28 => ?_) (fun h28 => ?_)
        · refine x_iinc (pc := 38) (v := nI (f + 1)) (L' := [(4, .int (nI (f + 1))), (3, .int (mk (sfM M i n x1) f)), (2, .int (mk (rdM M i) n)), (0, .ref (t.1 (7 + i))), (1, .int x1)]) C 0 dX10_safe_38 rfl (nI_1 _) (by decide) rfl ?_
          refine x_goto (pc := 41) C 10 dX10_safe_41 (by decide) ?_
          refine x_sub [0, 1, 2, 3, 4] rfl ?_
          exact ih (f + 1) _ _ (by omega) (by first | exact (mk_f (p := sfM M i n x1) (decide_eq_false (fun h => absurd h28 (Int32.not_lt.mpr h)))).symm | exact mk_t (p := sfM M i n x1) (decide_eq_true (Int32.not_lt.mp h28))) rfl
        · refine x_iload_n (pc := 31) C 1 dX10_safe_31 rfl ?_
          refine x_iconst (pc := 32) (v := 1) C dX10_safe_32 rfl ?_
          refine x_iload (pc := 33) C 0 dX10_safe_33 rfl ?_
          refine x_ishl (pc := 35) C dX10_safe_35 ?_
          refine x_ior (pc := 36) C dX10_safe_36 ?_
          refine x_istore_n (pc := 37) (L' := [(3, .int ((mk (sfM M i n x1) f) ||| (1 <<< ((nI f) &&& 31)))), (4, .int (nI f)), (2, .int (mk (rdM M i) n)), (0, .ref (t.1 (7 + i))), (1, .int x1)]) C dX10_safe_37 (by decide) rfl ?_
          refine x_iinc (pc := 38) (v := nI (f + 1)) (L' := [(4, .int (nI (f + 1))), (3, .int ((mk (sfM M i n x1) f) ||| (1 <<< ((nI f) &&& 31)))), (2, .int (mk (rdM M i) n)), (0, .ref (t.1 (7 + i))), (1, .int x1)]) C 1 dX10_safe_38 rfl (nI_1 _) (by decide) rfl ?_
          refine x_goto (pc := 41) C 10 dX10_safe_41 (by decide) ?_
          refine x_sub [0, 1, 2, 3, 4] rfl ?_
          exact ih (f + 1) _ _ (by omega) (by first | exact (mk_f (p := sfM M i n x1) (decide_eq_false (fun h => absurd h28 (Int32.not_lt.mpr h)))).symm | exact mk_t (p := sfM M i n x1) (decide_eq_true (Int32.not_lt.mp h28))) rfl
  refine x_sub [0, 1, 2, 3, 4] rfl ?_
  exact loop10 8 0 _ _ (by omega) rfl rfl

set_option maxRecDepth 100000 in
set_option maxHeartbeats 4000000 in
theorem c_X10_lost (t : CT) (M : MM) {i : Nat} (hi : i < 3) {n : Nat} (hW : WI M i n)  : XMet (wC t) yX10_lost cX10_lost 2 (some .int) 6 [.ref (t.1 (7 + i))] M (rI (orF M i (mk (rdM M i) n ^^^ (-1)) n &&& (orF M i (mk (rdM M i) n) n ^^^ (-1))) M) := by
  refine x_met RX10 (by decide) rfl (Nat.le_of_ble_eq_true rfl) (fun κ C X E => ?_)
  refine x_L (L' := [(0, .ref (t.1 (7 + i)))]) rfl ?_
  obtain ⟨hn, h6, hk⟩ := id hW
  refine x_aload_n (pc := 0) C 0 dX10_lost_0 rfl ?_
  refine x_callV (pc := 1) C E [] [] (c_X10_readers t _ hi hW) m_X10_readers q31_16 (xo_World hi) rfl (by decide) (Nat.le_of_ble_eq_true rfl) dX10_lost_1 rfl (k_I ?_)
  refine x_istore_n (pc := 4) (L' := [(1, .int (mk (rdM M i) n)), (0, .ref (t.1 (7 + i)))]) C dX10_lost_4 (by decide) rfl ?_
  refine x_aload_n (pc := 5) C 1 dX10_lost_5 rfl ?_
  refine x_iload_n (pc := 6) C 0 dX10_lost_6 rfl ?_
  refine x_iconst (pc := 7) (v := (-1)) C dX10_lost_7 rfl ?_
  refine x_ixor (pc := 8) C dX10_lost_8 ?_
  refine x_callV (pc := 9) C E [.int ((mk (rdM M i) n) ^^^ (-1))] [] (c_X10_filesOn t _ hi hW _) m_X10_filesOn q33_18 (xo_World hi) rfl (by decide) (Nat.le_of_ble_eq_true rfl) dX10_lost_9 rfl (k_I ?_)
  refine x_aload_n (pc := 12) C 1 dX10_lost_12 rfl ?_
  refine x_iload_n (pc := 13) C 0 dX10_lost_13 rfl ?_
  refine x_callV (pc := 14) C E [.int (mk (rdM M i) n)] [.int (orF M i ((mk (rdM M i) n) ^^^ (-1)) n)] (c_X10_filesOn t _ hi hW _) m_X10_filesOn q33_18 (xo_World hi) rfl (by decide) (Nat.le_of_ble_eq_true rfl) dX10_lost_14 rfl (k_I ?_)
  refine x_iconst (pc := 17) (v := (-1)) C dX10_lost_17 rfl ?_
  refine x_ixor (pc := 18) C dX10_lost_18 ?_
  refine x_iand (pc := 19) C dX10_lost_19 ?_
  exact x_iret (pc := 20) C X dX10_lost_20 (rI_i rfl)

set_option maxRecDepth 100000 in
set_option maxHeartbeats 4000000 in
theorem c_X10_contentCount (t : CT) (M : MM) {i : Nat} (hi : i < 3) {n : Nat} (hW : WI M i n)  : XMet (wC t) yX10_contentCount cX10_contentCount 3 (some .int) 2 [.ref (t.1 (7 + i))] M (rI (ccM M i n) M) := by
  refine x_met RX10 (by decide) rfl (Nat.le_of_ble_eq_true rfl) (fun κ C X E => ?_)
  refine x_L (L' := [(0, .ref (t.1 (7 + i)))]) rfl ?_
  obtain ⟨hn, h6, hk⟩ := id hW
  refine x_iconst (pc := 0) (v := 0) C dX10_contentCount_0 rfl ?_
  refine x_istore_n (pc := 1) (L' := [(1, .int 0), (0, .ref (t.1 (7 + i)))]) C dX10_contentCount_1 (by decide) rfl ?_
  refine x_iconst (pc := 2) (v := (nI 0)) C dX10_contentCount_2 (by decide) ?_
  refine x_istore_n (pc := 3) (L' := [(2, .int (nI 0)), (1, .int 0), (0, .ref (t.1 (7 + i)))]) C dX10_contentCount_3 (by decide) rfl ?_
  have loop4 : ∀ (k d : Nat) (x : Int32) (y : Int32) , d + k = n → x = ccM M i d → y = nI d → XV κ (xP (wC t) M) 4 [(2, .int y), (1, .int x), (0, .ref (t.1 (7 + i)))] [] := by
    intro k
    induction k with
      | zero =>
        intro d x y  hcnt ex ey
        subst ex
        subst ey
        obtain rfl : n = d := by omega
        refine x_iload_n (pc := 4) C 0 dX10_contentCount_4 rfl ?_
        refine x_aload_n (pc := 5) C 2 dX10_contentCount_5 rfl ?_
        refine g_World_size (pc := 6) C E hi q12_22 dX10_contentCount_6 ?_
        refine x_eq (show M (7 + i) 2 = nI n from hn) ?_
        refine x_icmp_ge_t (pc := 9) C 33 dX10_contentCount_9 (by decide) (nI_le (by omega) (by omega)) ?_
        refine x_iload_n (pc := 33) C 1 dX10_contentCount_33 rfl ?_
        exact x_iret (pc := 34) C X dX10_contentCount_34 (rI_i rfl)
      | succ k ih =>
        intro d x y  hcnt ex ey
        subst ex
        subst ey
        have hi4 : d < n := by omega
        refine x_iload_n (pc := 4) C 0 dX10_contentCount_4 rfl ?_
        refine x_aload_n (pc := 5) C 2 dX10_contentCount_5 rfl ?_
        refine g_World_size (pc := 6) C E hi q12_22 dX10_contentCount_6 ?_
        refine x_eq (show M (7 + i) 2 = nI n from hn) ?_
        refine x_icmp_ge_f (pc := 9) C 33 dX10_contentCount_9 (by decide) (nI_ge (by omega) (by omega)) ?_
        refine x_iload_n (pc := 12) C 1 dX10_contentCount_12 rfl ?_
        refine x_aload_n (pc := 13) C 2 dX10_contentCount_13 rfl ?_
        refine g_World_disks (pc := 14) C E hi q4_3 dX10_contentCount_14 ?_
        refine x_iload_n (pc := 17) C 0 dX10_contentCount_17 rfl ?_
        refine l_disks (pc := 18) C E hi (by omega) dX10_contentCount_18 ?_
        refine g_Disk_held (pc := 19) C E (by omega) q30_6 dX10_contentCount_19 ?_
        refine x_callS (pc := 22) C E [.int (M (62 + 3 * (6 * i + d)) 3)] [.int (ccM M i d)] (c_bitCount t _ _) m_J6_bitCount_0f7a4 q34_13 rfl (by decide) (Nat.le_of_ble_eq_true rfl) dX10_contentCount_22 rfl (k_I ?_)
        refine x_iadd (pc := 25) C dX10_contentCount_25 ?_
        refine x_istore_n (pc := 26) (L' := [(1, .int ((ccM M i d) + (jbc (M (62 + 3 * (6 * i + d)) 3)))), (2, .int (nI d)), (0, .ref (t.1 (7 + i)))]) C dX10_contentCount_26 (by decide) rfl ?_
        refine x_iinc (pc := 27) (v := nI (d + 1)) (L' := [(2, .int (nI (d + 1))), (1, .int ((ccM M i d) + (jbc (M (62 + 3 * (6 * i + d)) 3)))), (0, .ref (t.1 (7 + i)))]) C 1 dX10_contentCount_27 rfl (nI_1 _) (by decide) rfl ?_
        refine x_goto (pc := 30) C 4 dX10_contentCount_30 (by decide) ?_
        refine x_sub [0, 1, 2] rfl ?_
        exact ih (d + 1) _ _ (by omega) rfl rfl
  refine x_sub [0, 1, 2] rfl ?_
  exact loop4 n 0 _ _ (by omega) rfl rfl

set_option maxRecDepth 100000 in
set_option maxHeartbeats 4000000 in
theorem c_X10_canCopy (t : CT) (M : MM) {i : Nat} (hi : i < 3) {n : Nat} (hW : WI M i n) {a b : Nat} (ha : a < n) (hb : b < n) : XMet (wC t) yX10_canCopy cX10_canCopy 3 (some .boolean) 5 [.ref (t.1 (7 + i)), .int (nI a), .int (nI b)] M (rI (b2i (rdM M i a && rdM M i b)) M) := by
  refine x_met RX10 (by decide) rfl (Nat.le_of_ble_eq_true rfl) (fun κ C X E => ?_)
  refine x_L (L' := [(0, .ref (t.1 (7 + i))), (1, .int (nI a)), (2, .int (nI b))]) rfl ?_
  obtain ⟨hn, h6, hk⟩ := id hW
  refine x_aload_n (pc := 0) C 0 dX10_canCopy_0 rfl ?_
  refine g_World_disks (pc := 1) C E hi q4_3 dX10_canCopy_1 ?_
  refine x_iload_n (pc := 4) C 1 dX10_canCopy_4 rfl ?_
  refine l_disks (pc := 5) C E hi (by omega) dX10_canCopy_5 ?_
  refine x_aload_n (pc := 6) C 0 dX10_canCopy_6 rfl ?_
  refine g_World_day (pc := 7) C E hi q30_0 dX10_canCopy_7 ?_
  refine x_callV (pc := 10) C E [.int (M (7 + i) 0)] [] (c_X2_readsOn t _ (by omega) (hk a (by omega)) _) m_X2_readsOn q30_1 (xo_Disk (by omega)) rfl (by decide) (Nat.le_of_ble_eq_true rfl) dX10_canCopy_10 rfl (k_I ?_)
  refine x_ifb_eq (pc := 13) C 36 dX10_canCopy_13 (by decide) (fun h13 => ?_) (fun h13 => ?_)
  · refine x_iconst (pc := 36) (v := 0) C dX10_canCopy_36 rfl ?_
    exact x_bret (pc := 37) C X (b := false) rfl dX10_canCopy_37 (rI_b (by first | (simp [rdM, h13]; done) | (simp [rdM, h13, h29]; done)))
  · refine x_aload_n (pc := 16) C 0 dX10_canCopy_16 rfl ?_
    refine g_World_disks (pc := 17) C E hi q4_3 dX10_canCopy_17 ?_
    refine x_iload_n (pc := 20) C 2 dX10_canCopy_20 rfl ?_
    refine l_disks (pc := 21) C E hi (by omega) dX10_canCopy_21 ?_
    refine x_aload_n (pc := 22) C 0 dX10_canCopy_22 rfl ?_
    refine g_World_day (pc := 23) C E hi q30_0 dX10_canCopy_23 ?_
    refine x_callV (pc := 26) C E [.int (M (7 + i) 0)] [] (c_X2_readsOn t _ (by omega) (hk b (by omega)) _) m_X2_readsOn q30_1 (xo_Disk (by omega)) rfl (by decide) (Nat.le_of_ble_eq_true rfl) dX10_canCopy_26 rfl (k_I ?_)
    refine x_ifb_eq (pc := 29) C 36 dX10_canCopy_29 (by decide) (fun h29 => ?_) (fun h29 => ?_)
    · refine x_iconst (pc := 36) (v := 0) C dX10_canCopy_36 rfl ?_
      exact x_bret (pc := 37) C X (b := false) rfl dX10_canCopy_37 (rI_b (by first | (simp [rdM, h13]; done) | (simp [rdM, h13, h29]; done)))
    · refine x_iconst (pc := 32) (v := 1) C dX10_canCopy_32 rfl ?_
      refine x_goto (pc := 33) C 37 dX10_canCopy_33 (by decide) ?_
      exact x_bret (pc := 37) C X (b := true) rfl dX10_canCopy_37 (rI_b (by first | (simp [rdM, h13]; done) | (simp [rdM, h13, h29]; done)))

theorem wBec_0 (M : MM) (i i2 : Nat) (hi : i < 3) (hi2 : i2 < 3) : mu (mu (mu M (7 + i) 0 (M (7 + i2) 0)) (7 + i) 1 (mu M (7 + i) 0 (M (7 + i2) 0) (7 + i2) 1)) (7 + i) 2 (mu (mu M (7 + i) 0 (M (7 + i2) 0)) (7 + i) 1 (mu M (7 + i) 0 (M (7 + i2) 0) (7 + i2) 1) (7 + i2) 2) = wBecN M i i2 0 := by
  funext a b
  unfold wBecN
  simp only [mu_at]
  by_cases h1 : a = 7 + i
  · subst h1
    rcases (by omega : b = 0 ∨ b = 1 ∨ b = 2 ∨ 3 ≤ b) with rfl | rfl | rfl | h
    · simp
    · simp
    · simp
    · simp [show ¬ b = 0 by omega, show ¬ b = 1 by omega, show ¬ b = 2 by omega, show ¬ b < 3 by omega, show ¬ 62 + 18 * i ≤ 7 + i by omega]
  · simp [h1]
    omega
theorem wBec_S (M : MM) (i i2 d : Nat) (hi : i < 3) (hi2 : i2 < 3) (hd : d < 6) (hne : i ≠ i2) : dBec (wBecN M i i2 d) (6 * i + d) (6 * i2 + d) = wBecN M i i2 (d + 1) := by
  funext a b
  unfold dBec
  have e : ∀ x y, (62 + 3 * (6 * i2 + d) ≤ x ∧ x < 62 + 3 * (6 * i2 + d) + 3) → wBecN M i i2 d x y = M x y := by
    intro x y h
    unfold wBecN
    rw [if_neg (by omega), if_neg (by omega)]
  by_cases h1 : a = 62 + 3 * (6 * i + d)
  · subst h1
    by_cases hb : b < 4
    · rw [if_pos ⟨rfl, hb⟩, e _ _ (by omega)]
      unfold wBecN
      rw [if_neg (by omega), if_pos ⟨by omega, by omega, by rw [if_pos (by omega)]; exact hb⟩]
      rw [show 62 + 3 * (6 * i + d) - 18 * i + 18 * i2 = 62 + 3 * (6 * i2 + d) by omega]
    · rw [if_neg (by omega), if_neg (by omega), if_neg (by omega)]
      unfold wBecN
      rw [if_neg (by omega), if_neg (by omega), if_neg (by omega), if_neg (by rw [if_pos (show (62 + 3 * (6 * i + d) - 62) % 3 = 0 by omega)]; omega)]
  · by_cases h2 : a = 63 + 3 * (6 * i + d)
    · subst h2
      by_cases hb : b < 8
      · rw [if_neg (by omega), if_pos ⟨rfl, hb⟩, e _ _ (by omega)]
        unfold wBecN
        rw [if_neg (by omega), if_pos ⟨by omega, by omega, by rw [if_neg (by omega)]; exact hb⟩]
        rw [show 63 + 3 * (6 * i + d) - 18 * i + 18 * i2 = 63 + 3 * (6 * i2 + d) by omega]
      · rw [if_neg (by omega), if_neg (by omega), if_neg (by omega)]
        unfold wBecN
        rw [if_neg (by omega), if_neg (by omega), if_neg (by omega), if_neg (by rw [if_neg (show ¬ (63 + 3 * (6 * i + d) - 62) % 3 = 0 by omega)]; omega)]
    · by_cases h3 : a = 64 + 3 * (6 * i + d)
      · subst h3
        by_cases hb : b < 8
        · rw [if_neg (by omega), if_neg (by omega), if_pos ⟨rfl, hb⟩, e _ _ (by omega)]
          unfold wBecN
          rw [if_neg (by omega), if_pos ⟨by omega, by omega, by rw [if_neg (by omega)]; exact hb⟩]
          rw [show 64 + 3 * (6 * i + d) - 18 * i + 18 * i2 = 64 + 3 * (6 * i2 + d) by omega]
        · rw [if_neg (by omega), if_neg (by omega), if_neg (by omega)]
          unfold wBecN
          rw [if_neg (by omega), if_neg (by omega), if_neg (by omega), if_neg (by rw [if_neg (show ¬ (64 + 3 * (6 * i + d) - 62) % 3 = 0 by omega)]; omega)]
      · rw [if_neg (by omega), if_neg (by omega), if_neg (by omega)]
        unfold wBecN
        by_cases g : a = 7 + i ∧ b < 3
        · rw [if_pos g, if_pos g]
        · rw [if_neg g, if_neg g]
          by_cases g2 : 62 + 18 * i ≤ a ∧ a < 62 + 18 * i + 3 * d ∧ b < (if (a - 62) % 3 = 0 then 4 else 8)
          · rw [if_pos g2, if_pos ⟨g2.1, by omega, g2.2.2⟩]
          · rw [if_neg g2, if_neg (by omega)]
set_option maxRecDepth 100000 in
set_option maxHeartbeats 4000000 in
theorem c_X10_become (t : CT) (M : MM) {i : Nat} (hi : i < 3) {i2 : Nat} (hi2 : i2 < 3) (hne : i ≠ i2) : XMet (wC t) yX10_become cX10_become 3 none 3 [.ref (t.1 (7 + i)), .ref (t.1 (7 + i2))] M (rU (wBecN M i i2 6)) := by
  refine x_met RX10 (by decide) rfl (Nat.le_of_ble_eq_true rfl) (fun κ C X E => ?_)
  refine x_L (L' := [(0, .ref (t.1 (7 + i))), (1, .ref (t.1 (7 + i2)))]) rfl ?_
  refine x_aload_n (pc := 0) C 0 dX10_become_0 rfl ?_
  refine x_aload_n (pc := 1) C 1 dX10_become_1 rfl ?_
  refine g_World_day (pc := 2) C E hi2 q30_0 dX10_become_2 ?_
  refine p_World_day (pc := 5) C E hi q30_0 dX10_become_5 ?_
  refine x_aload_n (pc := 8) C 0 dX10_become_8 rfl ?_
  refine x_aload_n (pc := 9) C 1 dX10_become_9 rfl ?_
  refine g_World_rule (pc := 10) C E hi2 q36_8 dX10_become_10 ?_
  refine p_World_rule (pc := 13) C E hi q36_8 dX10_become_13 ?_
  refine x_aload_n (pc := 16) C 0 dX10_become_16 rfl ?_
  refine x_aload_n (pc := 17) C 1 dX10_become_17 rfl ?_
  refine g_World_size (pc := 18) C E hi2 q12_22 dX10_become_18 ?_
  refine p_World_size (pc := 21) C E hi q12_22 dX10_become_21 ?_
  refine x_iconst (pc := 24) (v := (nI 0)) C dX10_become_24 (by decide) ?_
  refine x_istore_n (pc := 25) (L' := [(2, .int (nI 0)), (0, .ref (t.1 (7 + i))), (1, .ref (t.1 (7 + i2)))]) C dX10_become_25 (by decide) rfl ?_
  have loop26 : ∀ (k d : Nat) (y : Int32) (Mx : MM) , d + k = 6 → y = nI d → Mx = wBecN M i i2 d → XV κ (xP (wC t) Mx) 26 [(2, .int y), (0, .ref (t.1 (7 + i))), (1, .ref (t.1 (7 + i2)))] [] := by
    intro k
    induction k with
      | zero =>
        intro d y Mx  hcnt ey eMx
        subst ey
        subst eMx
        obtain rfl : 6 = d := by omega
        refine x_iload_n (pc := 26) C 0 dX10_become_26 rfl ?_
        refine x_bipush (pc := 27) (v := (nI 6)) C dX10_become_27 (by decide) ?_
        refine x_icmp_ge_t (pc := 29) C 53 dX10_become_29 (by decide) (nI_le (by omega) (by omega)) ?_
        exact x_vret (pc := 53) C X dX10_become_53 ⟨rfl, rfl⟩
      | succ k ih =>
        intro d y Mx  hcnt ey eMx
        subst ey
        subst eMx
        have hi26 : d < 6 := by omega
        refine x_iload_n (pc := 26) C 0 dX10_become_26 rfl ?_
        refine x_bipush (pc := 27) (v := (nI 6)) C dX10_become_27 (by decide) ?_
        refine x_icmp_ge_f (pc := 29) C 53 dX10_become_29 (by decide) (nI_ge (by omega) (by omega)) ?_
        refine x_aload_n (pc := 32) C 1 dX10_become_32 rfl ?_
        refine g_World_disks (pc := 33) C E hi q4_3 dX10_become_33 ?_
        refine x_iload_n (pc := 36) C 0 dX10_become_36 rfl ?_
        refine l_disks (pc := 37) C E hi (by omega) dX10_become_37 ?_
        refine x_aload_n (pc := 38) C 2 dX10_become_38 rfl ?_
        refine g_World_disks (pc := 39) C E hi2 q4_3 dX10_become_39 ?_
        refine x_iload_n (pc := 42) C 0 dX10_become_42 rfl ?_
        refine l_disks (pc := 43) C E hi2 (by omega) dX10_become_43 ?_
        refine x_callV (pc := 44) C E [.ref (t.1 (62 + 3 * (6 * i2 + d)))] [] (c_X2_become t _ (by omega) (by omega)) m_X2_become q36_9 (xo_Disk (by omega)) rfl (by decide) (Nat.le_of_ble_eq_true rfl) dX10_become_44 rfl (k_U ?_)
        refine x_iinc (pc := 47) (v := nI (d + 1)) (L' := [(2, .int (nI (d + 1))), (0, .ref (t.1 (7 + i))), (1, .ref (t.1 (7 + i2)))]) C 0 dX10_become_47 rfl (nI_1 _) (by decide) rfl ?_
        refine x_goto (pc := 50) C 26 dX10_become_50 (by decide) ?_
        refine x_sub [0, 1, 2] rfl ?_
        exact ih (d + 1) _ _ (by omega) rfl (wBec_S M i i2 d hi hi2 (by omega) hne)
  refine x_sub [0, 1, 2] rfl ?_
  exact loop26 6 0 _ _ (by omega) rfl (wBec_0 M i i2 hi hi2)

set_option maxRecDepth 100000 in
set_option maxHeartbeats 4000000 in
theorem c_X10_copyOnto (t : CT) (M : MM) {i : Nat} (hi : i < 3) {n : Nat} (hW : WI M i n) {a b : Nat} (ha : a < n) (hb : b < n) {q : Nat} (hq : q < 7) {e : Nat → Nat} (he : ∀ k, k < 3 → M (21 + 5 * q) k = nI (e k)) (he3 : ∀ k, k < 3 → e k ≤ 160) {Ev : (Nat → Int32) → Int32} (hE : ∀ nm s0, evJ (M (20 + 5 * q)) nm s0 (evF e 0) (e 0 - evF e 0) = Ev nm)  : XMet (wC t) yX10_copyOnto cX10_copyOnto 9 (some .int) 6 [.ref (t.1 (7 + i)), .int (nI a), .int (nI b), .ref (t.1 (19 + 5 * q))] M (fun r M' => r = some (.int (nI (cpN M i a b Ev 8).2)) ∧ Jk q (cpN M i a b Ev 8).1 M') := by
  refine x_met RX10 (by decide) rfl (Nat.le_of_ble_eq_true rfl) (fun κ C X E => ?_)
  refine x_L (L' := [(0, .ref (t.1 (7 + i))), (1, .int (nI a)), (2, .int (nI b)), (3, .ref (t.1 (19 + 5 * q)))]) rfl ?_
  obtain ⟨hn, h6, hk⟩ := id hW
  refine x_aload_n (pc := 0) C 0 dX10_copyOnto_0 rfl ?_
  refine g_World_disks (pc := 1) C E hi q4_3 dX10_copyOnto_1 ?_
  refine x_iload_n (pc := 4) C 1 dX10_copyOnto_4 rfl ?_
  refine l_disks (pc := 5) C E hi (by omega) dX10_copyOnto_5 ?_
  refine x_astore (pc := 6) (L' := [(4, .ref (t.1 (62 + 3 * (6 * i + a)))), (0, .ref (t.1 (7 + i))), (1, .int (nI a)), (2, .int (nI b)), (3, .ref (t.1 (19 + 5 * q)))]) C dX10_copyOnto_6 (by decide) rfl ?_
  refine x_aload_n (pc := 8) C 1 dX10_copyOnto_8 rfl ?_
  refine g_World_disks (pc := 9) C E hi q4_3 dX10_copyOnto_9 ?_
  refine x_iload_n (pc := 12) C 3 dX10_copyOnto_12 rfl ?_
  refine l_disks (pc := 13) C E hi (by omega) dX10_copyOnto_13 ?_
  refine x_astore (pc := 14) (L' := [(5, .ref (t.1 (62 + 3 * (6 * i + b)))), (4, .ref (t.1 (62 + 3 * (6 * i + a)))), (0, .ref (t.1 (7 + i))), (1, .int (nI a)), (2, .int (nI b)), (3, .ref (t.1 (19 + 5 * q)))]) C dX10_copyOnto_14 (by decide) rfl ?_
  refine x_iconst (pc := 16) (v := (nI 0)) C dX10_copyOnto_16 (by decide) ?_
  refine x_istore (pc := 17) (L' := [(6, .int (nI 0)), (5, .ref (t.1 (62 + 3 * (6 * i + b)))), (4, .ref (t.1 (62 + 3 * (6 * i + a)))), (0, .ref (t.1 (7 + i))), (1, .int (nI a)), (2, .int (nI b)), (3, .ref (t.1 (19 + 5 * q)))]) C dX10_copyOnto_17 (by decide) rfl ?_
  refine x_iconst (pc := 19) (v := (nI 0)) C dX10_copyOnto_19 (by decide) ?_
  refine x_istore (pc := 20) (L' := [(7, .int (nI 0)), (6, .int (nI 0)), (5, .ref (t.1 (62 + 3 * (6 * i + b)))), (4, .ref (t.1 (62 + 3 * (6 * i + a)))), (0, .ref (t.1 (7 + i))), (1, .int (nI a)), (2, .int (nI b)), (3, .ref (t.1 (19 + 5 * q)))]) C dX10_copyOnto_20 (by decide) rfl ?_
  have loop22 : ∀ (k f : Nat) (x : Int32) (y : Int32) (Mx : MM) , f + k = 8 → x = nI (cpN M i a b Ev f).2 → y = nI f → Jk q (cpN M i a b Ev f).1 Mx → XV κ (xP (wC t) Mx) 22 [(7, .int y), (6, .int x), (5, .ref (t.1 (62 + 3 * (6 * i + b)))), (4, .ref (t.1 (62 + 3 * (6 * i + a)))), (0, .ref (t.1 (7 + i))), (1, .int (nI a)), (2, .int (nI b)), (3, .ref (t.1 (19 + 5 * q)))] [] := by
    intro k
    induction k with
      | zero =>
        intro f x y Mx  hcnt ex ey eMx
        subst ex
        subst ey
        obtain rfl : 8 = f := by omega
        refine x_iload (pc := 22) C 0 dX10_copyOnto_22 rfl ?_
        refine x_bipush (pc := 24) (v := (nI 8)) C dX10_copyOnto_24 (by decide) ?_
        refine x_icmp_ge_t (pc := 26) C 146 dX10_copyOnto_26 (by decide) (nI_le (by omega) (by omega)) ?_
        refine x_iload (pc := 146) C 1 dX10_copyOnto_146 rfl ?_
        exact x_iret (pc := 148) C X dX10_copyOnto_148 ⟨rfl, eMx⟩
      | succ k ih =>
        intro f x y Mx  hcnt ex ey eMx
        subst ex
        subst ey
        have hi22 : f < 8 := by omega
        have eR : ∀ x y, (x < 19 ∨ 54 ≤ x) → Mx x y = (cpN M i a b Ev f).1 x y := fun x y h => eMx x y (by omega) (by omega) (by omega)
        have eO : ∀ d, (Mx (62 + 3 * (6 * i + d)) 0) = M (62 + 3 * (6 * i + d)) 0 := fun d => (eR _ _ (by omega)).trans (cpN_o ⟨by omega, by omega, by omega⟩ f)
        have hkx : ∀ d, d < n → (Mx (62 + 3 * (6 * i + d)) 0).toNatClampNeg < 6 := fun d hd => by rw [eO d]; exact hk d hd
        have e20 : Mx (20 + 5 * q) = M (20 + 5 * q) := funext fun y => (eMx _ y (by omega) (by omega) (by omega)).trans (cpN_o ⟨by omega, by omega, by omega⟩ f)
        have heM : ∀ k, k < 3 → Mx (21 + 5 * q) k = nI (e k) := fun k hk3 => ((eMx _ k (by omega) (by omega) (by omega)).trans (cpN_o ⟨by omega, by omega, by omega⟩ f)).trans (he k hk3)
        have hEM : ∀ nm s0, evJ (Mx (20 + 5 * q)) nm s0 (evF e 0) (e 0 - evF e 0) = Ev nm := fun nm s0 => by rw [e20]; exact hE nm s0
        have hti : tiJ (cpN M i a b Ev f).1 (6 * i + b) f = tiJ Mx (6 * i + b) f := by unfold tiJ; rw [eR _ _ (by omega), eR _ _ (by omega), eR _ _ (by omega)]
        have hbt : bt ((cpN M i a b Ev f).1 (62 + 3 * (6 * i + a)) 3) f = bt (Mx (62 + 3 * (6 * i + a)) 3) f := by rw [eR _ _ (by omega)]
        have hcc : cpC (cpN M i a b Ev f).1 i a b f Ev = (bt (Mx (62 + 3 * (6 * i + a)) 3) f && (tiJ Mx (6 * i + b) f && decide (Ev (nm6 (Mx (64 + 3 * (6 * i + b)) f) (Mx (64 + 3 * (6 * i + a)) f) (b2i (decide (Mx (63 + 3 * (6 * i + a)) f = Mx (63 + 3 * (6 * i + b)) f))) (Mx (62 + 3 * (6 * i + b)) 1) (nI f) (Mx (7 + i) 0)) ≠ 0))) := by
          unfold cpC
          rw [hti, hbt, eR (64 + 3 * (6 * i + b)) f (by omega), eR (64 + 3 * (6 * i + a)) f (by omega), eR (63 + 3 * (6 * i + a)) f (by omega), eR (63 + 3 * (6 * i + b)) f (by omega), eR (62 + 3 * (6 * i + b)) 1 (by omega), eR (7 + i) 0 (by omega)]
        refine x_iload (pc := 22) C 0 dX10_copyOnto_22 rfl ?_
        refine x_bipush (pc := 24) (v := (nI 8)) C dX10_copyOnto_24 (by decide) ?_
        refine x_icmp_ge_f (pc := 26) C 146 dX10_copyOnto_26 (by decide) (nI_ge (by omega) (by omega)) ?_
        refine x_aload (pc := 29) C 3 dX10_copyOnto_29 rfl ?_
        refine g_Disk_held (pc := 31) C E (by omega) q30_6 dX10_copyOnto_31 ?_
        refine x_iload (pc := 34) C 0 dX10_copyOnto_34 rfl ?_
        refine x_callSN (host := RX11) (pc := 36) C E [.int (Mx (62 + 3 * (6 * i + a)) 3), .int (nI f)] [] (c_X11_isIn t _ _ (by omega)) m_X11_isIn (by simp [lw_nest]) rfl (by decide) (Nat.le_of_ble_eq_true rfl) dX10_copyOnto_36 rfl (k_I ?_)
        refine x_ifb_eq (pc := 39) C 140 dX10_copyOnto_39 (by decide) (fun h39 => ?_) (fun h39 => ?_)
        · refine x_iinc (pc := 140) (v := nI (f + 1)) (L' := [(7, .int (nI (f + 1))), (6, .int (nI (cpN M i a b Ev f).2)), (5, .ref (t.1 (62 + 3 * (6 * i + b)))), (4, .ref (t.1 (62 + 3 * (6 * i + a)))), (0, .ref (t.1 (7 + i))), (1, .int (nI a)), (2, .int (nI b)), (3, .ref (t.1 (19 + 5 * q)))]) C 0 dX10_copyOnto_140 rfl (nI_1 _) (by decide) rfl ?_
          refine x_goto (pc := 143) C 22 dX10_copyOnto_143 (by decide) ?_
          refine x_sub [0, 1, 2, 3, 4, 5, 6, 7] rfl ?_
          have hcf : cpC (cpN M i a b Ev f).1 i a b f Ev = false := by rw [hcc]; first | (rw [h39, h49, h111]; rfl) | (rw [h39, h49]; rfl) | (rw [h39]; rfl)
          refine ih (f + 1) _ _ _ (by omega) (by rw [cpN_f hcf]) rfl ?_
          rw [cpN_f hcf]
          exact eMx
        · refine x_aload (pc := 42) C 2 dX10_copyOnto_42 rfl ?_
          refine x_iload (pc := 44) C 0 dX10_copyOnto_44 rfl ?_
          refine x_callV (pc := 46) C E [.int (nI f)] [] (c_X2_takesIn t _ (by omega) (hkx _ (by omega)) (by omega)) m_X2_takesIn q30_10 (xo_Disk (by omega)) rfl (by decide) (Nat.le_of_ble_eq_true rfl) dX10_copyOnto_46 rfl (k_I ?_)
          refine x_ifb_eq (pc := 49) C 140 dX10_copyOnto_49 (by decide) (fun h49 => ?_) (fun h49 => ?_)
          · refine x_iinc (pc := 140) (v := nI (f + 1)) (L' := [(7, .int (nI (f + 1))), (6, .int (nI (cpN M i a b Ev f).2)), (5, .ref (t.1 (62 + 3 * (6 * i + b)))), (4, .ref (t.1 (62 + 3 * (6 * i + a)))), (0, .ref (t.1 (7 + i))), (1, .int (nI a)), (2, .int (nI b)), (3, .ref (t.1 (19 + 5 * q)))]) C 0 dX10_copyOnto_140 rfl (nI_1 _) (by decide) rfl ?_
            refine x_goto (pc := 143) C 22 dX10_copyOnto_143 (by decide) ?_
            refine x_sub [0, 1, 2, 3, 4, 5, 6, 7] rfl ?_
            have hcf : cpC (cpN M i a b Ev f).1 i a b f Ev = false := by rw [hcc]; first | (rw [h39, h49, h111]; rfl) | (rw [h39, h49]; rfl) | (rw [h39]; rfl)
            refine ih (f + 1) _ _ _ (by omega) (by rw [cpN_f hcf]) rfl ?_
            rw [cpN_f hcf]
            exact eMx
          · refine x_aload (pc := 52) C 3 dX10_copyOnto_52 rfl ?_
            refine g_Disk_contents (pc := 54) C E (by omega) q30_7 dX10_copyOnto_54 ?_
            refine x_iload (pc := 57) C 0 dX10_copyOnto_57 rfl ?_
            refine l_ct (pc := 59) C E (by omega) (by omega) dX10_copyOnto_59 ?_
            refine x_aload (pc := 60) C 2 dX10_copyOnto_60 rfl ?_
            refine g_Disk_contents (pc := 62) C E (by omega) q30_7 dX10_copyOnto_62 ?_
            refine x_iload (pc := 65) C 0 dX10_copyOnto_65 rfl ?_
            refine l_ct (pc := 67) C E (by omega) (by omega) dX10_copyOnto_67 ?_
            refine x_icmp_ne (pc := 68) C 75 dX10_copyOnto_68 (by decide) (fun h68 => ?_) (fun h68 => ?_)
            · refine x_iconst (pc := 75) (v := 0) C dX10_copyOnto_75 rfl ?_
              refine x_istore (pc := 76) (L' := [(8, .int 0), (7, .int (nI f)), (6, .int (nI (cpN M i a b Ev f).2)), (5, .ref (t.1 (62 + 3 * (6 * i + b)))), (4, .ref (t.1 (62 + 3 * (6 * i + a)))), (0, .ref (t.1 (7 + i))), (1, .int (nI a)), (2, .int (nI b)), (3, .ref (t.1 (19 + 5 * q)))]) C dX10_copyOnto_76 (by decide) rfl ?_
              refine x_aload_n (pc := 78) C 8 dX10_copyOnto_78 rfl ?_
              refine x_aload (pc := 79) C 3 dX10_copyOnto_79 rfl ?_
              refine g_Disk_stamps (pc := 81) C E (by omega) q30_8 dX10_copyOnto_81 ?_
              refine x_iload (pc := 84) C 1 dX10_copyOnto_84 rfl ?_
              refine l_st (pc := 86) C E (by omega) (by omega) dX10_copyOnto_86 ?_
              refine x_aload (pc := 87) C 4 dX10_copyOnto_87 rfl ?_
              refine g_Disk_stamps (pc := 89) C E (by omega) q30_8 dX10_copyOnto_89 ?_
              refine x_iload (pc := 92) C 1 dX10_copyOnto_92 rfl ?_
              refine l_st (pc := 94) C E (by omega) (by omega) dX10_copyOnto_94 ?_
              refine x_iload (pc := 95) C 0 dX10_copyOnto_95 rfl ?_
              refine x_eq (show 0 = b2i (decide (Mx (63 + 3 * (6 * i + a)) f = Mx (63 + 3 * (6 * i + b)) f)) from (by simp [h68]; rfl)) ?_
              refine x_aload (pc := 97) C 3 dX10_copyOnto_97 rfl ?_
              refine g_Disk_number (pc := 99) C E (by omega) q30_9 dX10_copyOnto_99 ?_
              refine x_iload (pc := 102) C 1 dX10_copyOnto_102 rfl ?_
              refine x_aload_n (pc := 104) C 5 dX10_copyOnto_104 rfl ?_
              refine g_World_day (pc := 105) C E hi q30_0 dX10_copyOnto_105 ?_
              refine x_callV (pc := 108) C E [.int (Mx (64 + 3 * (6 * i + b)) f), .int (Mx (64 + 3 * (6 * i + a)) f), .int (b2i (decide (Mx (63 + 3 * (6 * i + a)) f = Mx (63 + 3 * (6 * i + b)) f))), .int (Mx (62 + 3 * (6 * i + b)) 1), .int (nI f), .int (Mx (7 + i) 0)] [] (c_X6_takes t _ hq heM he3 hEM _ _ _ _ _ _) m_X6_takes q30_11 (xo_Rule hq) rfl (by decide) (Nat.le_of_ble_eq_true rfl) dX10_copyOnto_108 rfl (fun r M108 hc => ?_)
              obtain ⟨rfl, hJ2⟩ := hc
              show XV κ (xP (wC t) M108) 111 _ [.int (b2i (decide (Ev (nm6 (Mx (64 + 3 * (6 * i + b)) f) (Mx (64 + 3 * (6 * i + a)) f) (b2i (decide (Mx (63 + 3 * (6 * i + a)) f = Mx (63 + 3 * (6 * i + b)) f))) (Mx (62 + 3 * (6 * i + b)) 1) (nI f) (Mx (7 + i) 0)) ≠ 0)))]
              refine x_ifb_eq (pc := 111) C 140 dX10_copyOnto_111 (by decide) (fun h111 => ?_) (fun h111 => ?_)
              · refine x_iinc (pc := 140) (v := nI (f + 1)) (L' := [(7, .int (nI (f + 1))), (8, .int 0), (6, .int (nI (cpN M i a b Ev f).2)), (5, .ref (t.1 (62 + 3 * (6 * i + b)))), (4, .ref (t.1 (62 + 3 * (6 * i + a)))), (0, .ref (t.1 (7 + i))), (1, .int (nI a)), (2, .int (nI b)), (3, .ref (t.1 (19 + 5 * q)))]) C 1 dX10_copyOnto_140 rfl (nI_1 _) (by decide) rfl ?_
                refine x_goto (pc := 143) C 22 dX10_copyOnto_143 (by decide) ?_
                refine x_sub [0, 2, 3, 4, 5, 6, 7, 8] rfl ?_
                have hcf : cpC (cpN M i a b Ev f).1 i a b f Ev = false := by rw [hcc]; first | (rw [h39, h49, h111]; rfl) | (rw [h39, h49]; rfl) | (rw [h39]; rfl)
                refine ih (f + 1) _ _ _ (by omega) (by rw [cpN_f hcf]) rfl ?_
                rw [cpN_f hcf]
                exact (eMx.tr hJ2)
              · have hk108 : (M108 (62 + 3 * (6 * i + b)) 0).toNatClampNeg < 6 := by rw [hJ2 _ _ (by omega) (by omega) (by omega)]; exact hkx b hb
                refine x_aload (pc := 114) C 3 dX10_copyOnto_114 rfl ?_
                refine x_iload (pc := 116) C 1 dX10_copyOnto_116 rfl ?_
                refine x_aload (pc := 118) C 4 dX10_copyOnto_118 rfl ?_
                refine g_Disk_contents (pc := 120) C E (by omega) q30_7 dX10_copyOnto_120 ?_
                refine x_iload (pc := 123) C 1 dX10_copyOnto_123 rfl ?_
                refine l_ct (pc := 125) C E (by omega) (by omega) dX10_copyOnto_125 ?_
                refine x_aload (pc := 126) C 4 dX10_copyOnto_126 rfl ?_
                refine g_Disk_stamps (pc := 128) C E (by omega) q30_8 dX10_copyOnto_128 ?_
                refine x_iload (pc := 131) C 1 dX10_copyOnto_131 rfl ?_
                refine l_st (pc := 133) C E (by omega) (by omega) dX10_copyOnto_133 ?_
                refine x_callV (pc := 134) C E [.int (nI f), .int (M108 (63 + 3 * (6 * i + a)) f), .int (M108 (64 + 3 * (6 * i + a)) f)] [] (c_X2_put t _ (by omega) hk108 (by omega) _ _) m_X2_put q30_15 (xo_Disk (by omega)) rfl (by decide) (Nat.le_of_ble_eq_true rfl) dX10_copyOnto_134 rfl (k_U ?_)
                refine x_iinc (pc := 137) (v := (nI (cpN M i a b Ev f).2) + 1) (L' := [(6, .int ((nI (cpN M i a b Ev f).2) + 1)), (8, .int 0), (7, .int (nI f)), (5, .ref (t.1 (62 + 3 * (6 * i + b)))), (4, .ref (t.1 (62 + 3 * (6 * i + a)))), (0, .ref (t.1 (7 + i))), (1, .int (nI a)), (2, .int (nI b)), (3, .ref (t.1 (19 + 5 * q)))]) C 2 dX10_copyOnto_137 rfl rfl (by decide) rfl ?_
                refine x_iinc (pc := 140) (v := nI (f + 1)) (L' := [(7, .int (nI (f + 1))), (6, .int ((nI (cpN M i a b Ev f).2) + 1)), (8, .int 0), (5, .ref (t.1 (62 + 3 * (6 * i + b)))), (4, .ref (t.1 (62 + 3 * (6 * i + a)))), (0, .ref (t.1 (7 + i))), (1, .int (nI a)), (2, .int (nI b)), (3, .ref (t.1 (19 + 5 * q)))]) C 2 dX10_copyOnto_140 rfl (nI_1 _) (by decide) rfl ?_
                refine x_goto (pc := 143) C 22 dX10_copyOnto_143 (by decide) ?_
                refine x_sub [0, 1, 3, 4, 5, 6, 7, 8] rfl ?_
                have hct : cpC (cpN M i a b Ev f).1 i a b f Ev = true := by rw [hcc, h39, h49, h111]; rfl
                refine ih (f + 1) _ _ _ (by omega) (by rw [cpN_t hct]; exact nI_1 _) rfl ?_
                rw [cpN_t hct]
                have eJ : ∀ x y, (x < 19 ∨ 54 ≤ x) → M108 x y = (cpN M i a b Ev f).1 x y := fun x y h => (hJ2 x y (by omega) (by omega) (by omega)).trans (eR x y h)
                show Jk q (dPut (cpN M i a b Ev f).1 (6 * i + b) f ((cpN M i a b Ev f).1 (63 + 3 * (6 * i + a)) f) ((cpN M i a b Ev f).1 (64 + 3 * (6 * i + a)) f)) _
                rw [← eJ (63 + 3 * (6 * i + a)) f (by omega), ← eJ (64 + 3 * (6 * i + a)) f (by omega)]
                exact dPut_J (eMx.tr hJ2) hq _ _
            · refine x_iconst (pc := 71) (v := 1) C dX10_copyOnto_71 rfl ?_
              refine x_goto (pc := 72) C 76 dX10_copyOnto_72 (by decide) ?_
              refine x_istore (pc := 76) (L' := [(8, .int 1), (7, .int (nI f)), (6, .int (nI (cpN M i a b Ev f).2)), (5, .ref (t.1 (62 + 3 * (6 * i + b)))), (4, .ref (t.1 (62 + 3 * (6 * i + a)))), (0, .ref (t.1 (7 + i))), (1, .int (nI a)), (2, .int (nI b)), (3, .ref (t.1 (19 + 5 * q)))]) C dX10_copyOnto_76 (by decide) rfl ?_
              refine x_aload_n (pc := 78) C 8 dX10_copyOnto_78 rfl ?_
              refine x_aload (pc := 79) C 3 dX10_copyOnto_79 rfl ?_
              refine g_Disk_stamps (pc := 81) C E (by omega) q30_8 dX10_copyOnto_81 ?_
              refine x_iload (pc := 84) C 1 dX10_copyOnto_84 rfl ?_
              refine l_st (pc := 86) C E (by omega) (by omega) dX10_copyOnto_86 ?_
              refine x_aload (pc := 87) C 4 dX10_copyOnto_87 rfl ?_
              refine g_Disk_stamps (pc := 89) C E (by omega) q30_8 dX10_copyOnto_89 ?_
              refine x_iload (pc := 92) C 1 dX10_copyOnto_92 rfl ?_
              refine l_st (pc := 94) C E (by omega) (by omega) dX10_copyOnto_94 ?_
              refine x_iload (pc := 95) C 0 dX10_copyOnto_95 rfl ?_
              refine x_eq (show 1 = b2i (decide (Mx (63 + 3 * (6 * i + a)) f = Mx (63 + 3 * (6 * i + b)) f)) from (by simp [h68]; rfl)) ?_
              refine x_aload (pc := 97) C 3 dX10_copyOnto_97 rfl ?_
              refine g_Disk_number (pc := 99) C E (by omega) q30_9 dX10_copyOnto_99 ?_
              refine x_iload (pc := 102) C 1 dX10_copyOnto_102 rfl ?_
              refine x_aload_n (pc := 104) C 5 dX10_copyOnto_104 rfl ?_
              refine g_World_day (pc := 105) C E hi q30_0 dX10_copyOnto_105 ?_
              refine x_callV (pc := 108) C E [.int (Mx (64 + 3 * (6 * i + b)) f), .int (Mx (64 + 3 * (6 * i + a)) f), .int (b2i (decide (Mx (63 + 3 * (6 * i + a)) f = Mx (63 + 3 * (6 * i + b)) f))), .int (Mx (62 + 3 * (6 * i + b)) 1), .int (nI f), .int (Mx (7 + i) 0)] [] (c_X6_takes t _ hq heM he3 hEM _ _ _ _ _ _) m_X6_takes q30_11 (xo_Rule hq) rfl (by decide) (Nat.le_of_ble_eq_true rfl) dX10_copyOnto_108 rfl (fun r M108 hc => ?_)
              obtain ⟨rfl, hJ2⟩ := hc
              show XV κ (xP (wC t) M108) 111 _ [.int (b2i (decide (Ev (nm6 (Mx (64 + 3 * (6 * i + b)) f) (Mx (64 + 3 * (6 * i + a)) f) (b2i (decide (Mx (63 + 3 * (6 * i + a)) f = Mx (63 + 3 * (6 * i + b)) f))) (Mx (62 + 3 * (6 * i + b)) 1) (nI f) (Mx (7 + i) 0)) ≠ 0)))]
              refine x_ifb_eq (pc := 111) C 140 dX10_copyOnto_111 (by decide) (fun h111 => ?_) (fun h111 => ?_)
              · refine x_iinc (pc := 140) (v := nI (f + 1)) (L' := [(7, .int (nI (f + 1))), (8, .int 1), (6, .int (nI (cpN M i a b Ev f).2)), (5, .ref (t.1 (62 + 3 * (6 * i + b)))), (4, .ref (t.1 (62 + 3 * (6 * i + a)))), (0, .ref (t.1 (7 + i))), (1, .int (nI a)), (2, .int (nI b)), (3, .ref (t.1 (19 + 5 * q)))]) C 1 dX10_copyOnto_140 rfl (nI_1 _) (by decide) rfl ?_
                refine x_goto (pc := 143) C 22 dX10_copyOnto_143 (by decide) ?_
                refine x_sub [0, 2, 3, 4, 5, 6, 7, 8] rfl ?_
                have hcf : cpC (cpN M i a b Ev f).1 i a b f Ev = false := by rw [hcc]; first | (rw [h39, h49, h111]; rfl) | (rw [h39, h49]; rfl) | (rw [h39]; rfl)
                refine ih (f + 1) _ _ _ (by omega) (by rw [cpN_f hcf]) rfl ?_
                rw [cpN_f hcf]
                exact (eMx.tr hJ2)
              · have hk108 : (M108 (62 + 3 * (6 * i + b)) 0).toNatClampNeg < 6 := by rw [hJ2 _ _ (by omega) (by omega) (by omega)]; exact hkx b hb
                refine x_aload (pc := 114) C 3 dX10_copyOnto_114 rfl ?_
                refine x_iload (pc := 116) C 1 dX10_copyOnto_116 rfl ?_
                refine x_aload (pc := 118) C 4 dX10_copyOnto_118 rfl ?_
                refine g_Disk_contents (pc := 120) C E (by omega) q30_7 dX10_copyOnto_120 ?_
                refine x_iload (pc := 123) C 1 dX10_copyOnto_123 rfl ?_
                refine l_ct (pc := 125) C E (by omega) (by omega) dX10_copyOnto_125 ?_
                refine x_aload (pc := 126) C 4 dX10_copyOnto_126 rfl ?_
                refine g_Disk_stamps (pc := 128) C E (by omega) q30_8 dX10_copyOnto_128 ?_
                refine x_iload (pc := 131) C 1 dX10_copyOnto_131 rfl ?_
                refine l_st (pc := 133) C E (by omega) (by omega) dX10_copyOnto_133 ?_
                refine x_callV (pc := 134) C E [.int (nI f), .int (M108 (63 + 3 * (6 * i + a)) f), .int (M108 (64 + 3 * (6 * i + a)) f)] [] (c_X2_put t _ (by omega) hk108 (by omega) _ _) m_X2_put q30_15 (xo_Disk (by omega)) rfl (by decide) (Nat.le_of_ble_eq_true rfl) dX10_copyOnto_134 rfl (k_U ?_)
                refine x_iinc (pc := 137) (v := (nI (cpN M i a b Ev f).2) + 1) (L' := [(6, .int ((nI (cpN M i a b Ev f).2) + 1)), (8, .int 1), (7, .int (nI f)), (5, .ref (t.1 (62 + 3 * (6 * i + b)))), (4, .ref (t.1 (62 + 3 * (6 * i + a)))), (0, .ref (t.1 (7 + i))), (1, .int (nI a)), (2, .int (nI b)), (3, .ref (t.1 (19 + 5 * q)))]) C 2 dX10_copyOnto_137 rfl rfl (by decide) rfl ?_
                refine x_iinc (pc := 140) (v := nI (f + 1)) (L' := [(7, .int (nI (f + 1))), (6, .int ((nI (cpN M i a b Ev f).2) + 1)), (8, .int 1), (5, .ref (t.1 (62 + 3 * (6 * i + b)))), (4, .ref (t.1 (62 + 3 * (6 * i + a)))), (0, .ref (t.1 (7 + i))), (1, .int (nI a)), (2, .int (nI b)), (3, .ref (t.1 (19 + 5 * q)))]) C 2 dX10_copyOnto_140 rfl (nI_1 _) (by decide) rfl ?_
                refine x_goto (pc := 143) C 22 dX10_copyOnto_143 (by decide) ?_
                refine x_sub [0, 1, 3, 4, 5, 6, 7, 8] rfl ?_
                have hct : cpC (cpN M i a b Ev f).1 i a b f Ev = true := by rw [hcc, h39, h49, h111]; rfl
                refine ih (f + 1) _ _ _ (by omega) (by rw [cpN_t hct]; exact nI_1 _) rfl ?_
                rw [cpN_t hct]
                have eJ : ∀ x y, (x < 19 ∨ 54 ≤ x) → M108 x y = (cpN M i a b Ev f).1 x y := fun x y h => (hJ2 x y (by omega) (by omega) (by omega)).trans (eR x y h)
                show Jk q (dPut (cpN M i a b Ev f).1 (6 * i + b) f ((cpN M i a b Ev f).1 (63 + 3 * (6 * i + a)) f) ((cpN M i a b Ev f).1 (64 + 3 * (6 * i + a)) f)) _
                rw [← eJ (63 + 3 * (6 * i + a)) f (by omega), ← eJ (64 + 3 * (6 * i + a)) f (by omega)]
                exact dPut_J (eMx.tr hJ2) hq _ _
  refine x_sub [0, 1, 2, 3, 4, 5, 6, 7] rfl ?_
  exact loop22 8 0 _ _ M (by omega) rfl rfl Jk.rf

