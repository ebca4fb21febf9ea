/-! the class said of the state: worlds' methods of a value -/
theorem li_0 : (0 : Int32).toInt = 0 := rfl
theorem li_1 : (1 : Int32).toInt = 1 := rfl
theorem li_2 : (2 : Int32).toInt = 2 := rfl
theorem li_3 : (3 : Int32).toInt = 3 := rfl
theorem li_4 : (4 : Int32).toInt = 4 := rfl
theorem li_5 : (5 : Int32).toInt = 5 := rfl
theorem li_6 : (6 : Int32).toInt = 6 := rfl
theorem li_7 : (7 : Int32).toInt = 7 := rfl
theorem li_8 : (8 : Int32).toInt = 8 := rfl
theorem li_9 : (9 : Int32).toInt = 9 := rfl
theorem li_10 : (10 : Int32).toInt = 10 := rfl
theorem li_20 : (20 : Int32).toInt = 20 := rfl
theorem li_40 : (40 : Int32).toInt = 40 := rfl
theorem li_99 : (99 : Int32).toInt = 99 := rfl
theorem li_100 : (100 : Int32).toInt = 100 := rfl
theorem li_255 : (255 : Int32).toInt = 255 := rfl
theorem li_899 : (899 : Int32).toInt = 899 := rfl
theorem li_999 : (999 : Int32).toInt = 999 := rfl
theorem li_m1 : (-1 : Int32).toInt = -1 := rfl
theorem li_m2 : (-2 : Int32).toInt = -2 := rfl
theorem li_m3 : (-3 : Int32).toInt = -3 := rfl
theorem li_m4 : (-4 : Int32).toInt = -4 := rfl
theorem li_m11 : (-11 : Int32).toInt = -11 := rfl
theorem li_m12 : (-12 : Int32).toInt = -12 := rfl
theorem li_m13 : (-13 : Int32).toInt = -13 := rfl
theorem li_m14 : (-14 : Int32).toInt = -14 := rfl
theorem li_m100 : (-100 : Int32).toInt = -100 := rfl
theorem w_has (t : CT) {M : MM} {i : Nat} (hi : i < 3) {v : WV} (h : VC i v M) (x : Int32) : XMet (wC t) yX10_has cX10_has 2 (some .boolean) 1 [.ref (t.1 (7 + i)), .int x] M (rI (b2i (inB x (vN v))) M) := c_X10_has t M hi x h.2.2.2.1 (by have := h.1; omega)
theorem w_readers (t : CT) {M : MM} {i : Nat} (hi : i < 3) {v : WV} (h : VC i v M)  : XMet (wC t) yX10_readers cX10_readers 3 (some .int) 5 [.ref (t.1 (7 + i))] M (rI (mk (vRd v) (vN v)) M) := by
  rw [← vc_rds h]
  exact c_X10_readers t M hi (vc_wi h)
theorem w_filesOn (t : CT) {M : MM} {i : Nat} (hi : i < 3) {v : WV} (h : VC i v M) (x : Int32) : XMet (wC t) yX10_filesOn cX10_filesOn 4 (some .int) 2 [.ref (t.1 (7 + i)), .int x] M (rI (vOr v (bt x)) M) := by
  rw [← vc_orF h x]
  exact c_X10_filesOn t M hi (vc_wi h) x
theorem w_holders (t : CT) {M : MM} {i : Nat} (hi : i < 3) {v : WV} (h : VC i v M) {f : Nat} (hf : f < 8) : XMet (wC t) yX10_holders cX10_holders 2 (some .int) 6 [.ref (t.1 (7 + i)), .int (nI f)] M (rI (mk (vOn v f) (vN v)) M) := by
  rw [← vc_ho h hf]
  exact c_X10_holders t M hi (vc_wi h) hf
theorem w_newest (t : CT) {M : MM} {i : Nat} (hi : i < 3) {v : WV} (h : VC i v M) {f : Nat} (hf : f < 8) : XMet (wC t) yX10_newestHolder cX10_newestHolder 5 (some .int) 7 [.ref (t.1 (7 + i)), .int (nI f)] M (rI (encO (vNh v f (vN v))) M) := by
  rw [← vc_nh h hf _ (Nat.le_refl _)]
  exact c_X10_newestHolder t M hi (vc_wi h) hf
theorem w_differing (t : CT) {M : MM} {i : Nat} (hi : i < 3) {v : WV} (h : VC i v M)  : XMet (wC t) yX10_differing cX10_differing 4 (some .int) 6 [.ref (t.1 (7 + i))] M (rI (mk (vDu v) 8) M) := by
  rw [← mk_congr (fun f hf => vc_au h hf)]
  exact c_X10_differing t M hi (vc_wi h)
theorem w_safe (t : CT) {M : MM} {i : Nat} (hi : i < 3) {v : WV} (h : VC i v M) (k : Int32) : XMet (wC t) yX10_safe cX10_safe 5 (some .int) 6 [.ref (t.1 (7 + i)), .int k] M (rI (vSafe v k) M) := by
  rw [← vc_safe h k]
  exact c_X10_safe t M hi (vc_wi h) k
theorem w_lost (t : CT) {M : MM} {i : Nat} (hi : i < 3) {v : WV} (h : VC i v M)  : XMet (wC t) yX10_lost cX10_lost 2 (some .int) 6 [.ref (t.1 (7 + i))] M (rI (vLost v) M) := by
  rw [← vc_lost h]
  exact c_X10_lost t M hi (vc_wi h)
theorem w_contentCount (t : CT) {M : MM} {i : Nat} (hi : i < 3) {v : WV} (h : VC i v M)  : XMet (wC t) yX10_contentCount cX10_contentCount 3 (some .int) 2 [.ref (t.1 (7 + i))] M (rI (nI (vCc v (vN v))) M) := by
  rw [← vc_cc h _ (Nat.le_refl _)]
  exact c_X10_contentCount t M hi (vc_wi h)
theorem w_canCopy (t : CT) {M : MM} {i : Nat} (hi : i < 3) {v : WV} (h : VC i v M) {a b : Nat} (ha : a < vN v) (hb : b < vN v) : XMet (wC t) yX10_canCopy cX10_canCopy 3 (some .boolean) 5 [.ref (t.1 (7 + i)), .int (nI a), .int (nI b)] M (rI (b2i (vRd v a && vRd v b)) M) := by
  rw [← vc_rd h ha, ← vc_rd h hb]
  exact c_X10_canCopy t M hi (vc_wi h) ha hb
theorem w_readsOn (t : CT) {M : MM} {i : Nat} (hi : i < 3) {v : WV} (h : VC i v M) {d : Nat} (hd : d < vN v) {x : Int32} (hx : x = vD v) : XMet (wC t) yX2_readsOn cX2_readsOn 2 (some .boolean) 4 [.ref (t.1 (62 + 3 * (6 * i + d))), .int x] M (rI (b2i (vRd v d)) M) := by
  have e := vc_rd h hd
  unfold rdM at e
  rw [h.2.1] at e
  rw [← e, hx]
  exact c_X2_readsOn t M (by have := h.1; omega) (by rw [vc_k h hd]; exact (h.2.2.2.2 d hd).2.1) _
theorem w_takesIn (t : CT) {M : MM} {i : Nat} (hi : i < 3) {v : WV} (h : VC i v M) {d : Nat} (hd : d < vN v) {f : Nat} (hf : f < 8) : XMet (wC t) yX2_takesIn cX2_takesIn 2 (some .boolean) 4 [.ref (t.1 (62 + 3 * (6 * i + d))), .int (nI f)] M (rI (b2i (vTi v d f)) M) := by
  rw [← vc_ti h hd hf]
  exact c_X2_takesIn t M (by have := h.1; omega) (by rw [vc_k h hd]; exact (h.2.2.2.2 d hd).2.1) hf
theorem g_kind_code {κ : XK} {own : String} {cc : ByteArray} {n d : Nat} {t : CT} {M : MM} {pc : Nat} {L : List (Nat × Value)} {st : List Value} (C : XC κ own cc n d) (E : XE κ (wC t)) {k index : Nat} (h : k < 6) (hlink : Cond.fieldLink own index "InTheOldOne$DiskKind" "code" "I" ∈ wsL_law) (hd : decode cc pc = .ok (.getfield index, 3)) (kk : XV κ (xP (wC t) M) (pc + 3) L (.int (nI k) :: st)) : XV κ (xP (wC t) M) pc L (.ref (t.1 (13 + k)) :: st) := by
  match k, h with
  | 0, _ => exact x_get (nm := 13) (CN := RX3) (T := TX3) (ref := "InTheOldOne$DiskKind") C E 0 (by show 13 < 146; decide) (cC_kind0 (t := t) (r := M 13)) rfl inlX3 (by decide) hlink rfl rfl hd kk
  | 1, _ => exact x_get (nm := 14) (CN := RX0) (T := TX0) (ref := "InTheOldOne$DiskKind") C E 0 (by show 14 < 146; decide) (cC_kind1 (t := t) (r := M 14)) rfl inlX0 (by decide) hlink rfl rfl hd kk
  | 2, _ => exact x_get (nm := 15) (CN := RX1) (T := TX1) (ref := "InTheOldOne$DiskKind") C E 0 (by show 15 < 146; decide) (cC_kind2 (t := t) (r := M 15)) rfl inlX1 (by decide) hlink rfl rfl hd kk
  | 3, _ => exact x_get (nm := 16) (CN := RX4) (T := TX4) (ref := "InTheOldOne$DiskKind") C E 0 (by show 16 < 146; decide) (cC_kind3 (t := t) (r := M 16)) rfl inlX4 (by decide) hlink rfl rfl hd kk
  | 4, _ => exact x_get (nm := 17) (CN := RX7) (T := TX7) (ref := "InTheOldOne$DiskKind") C E 0 (by show 17 < 146; decide) (cC_kind4 (t := t) (r := M 17)) rfl inlX7 (by decide) hlink rfl rfl hd kk
  | 5, _ => exact x_get (nm := 18) (CN := RX5) (T := TX5) (ref := "InTheOldOne$DiskKind") C E 0 (by show 18 < 146; decide) (cC_kind5 (t := t) (r := M 18)) rfl inlX5 (by decide) hlink rfl rfl hd kk
/-- a row filled from its start -/
def fM (M : MM) (s n : Nat) (x : Int32) : MM := mr M (55 + 2 * s) (fun k => if k < n then x else M (55 + 2 * s) k)
theorem fM_0 (M : MM) (s : Nat) (x : Int32) : fM M s 0 x = M := by
  funext a b
  unfold fM
  by_cases h : a = 55 + 2 * s
  · subst h; rw [mr_s]; simp
  · rw [mr_n _ _ _ h]
theorem fM_S (M : MM) (s f : Nat) (x : Int32) : mu (fM M s f x) (55 + 2 * s) f x = fM M s (f + 1) x := by
  funext a b
  unfold fM
  by_cases h : a = 55 + 2 * s
  · subst h
    rw [mu_at, mr_s, mr_s]
    by_cases g : b = f
    · subst g; simp
    · by_cases g2 : b < f
      · rw [if_neg (fun e => g e.2), if_pos g2, if_pos (by omega)]
      · rw [if_neg (fun e => g e.2), if_neg g2, if_neg (by omega)]
  · rw [mu_n _ _ _ _ h, mr_n _ _ _ h, mr_n _ _ _ h]
def shB (M : MM) (s : Nat) (x y : Int32) : MM := fM (mu (mu M (54 + 2 * s) 1 x) (54 + 2 * s) 2 y) s 40 0
def hpB (x y : Int32) (n : Nat) : Bool := decide (0 ≤ y.toInt ∧ 0 ≤ x.toInt ∧ x.toInt + y.toInt ≤ n)
def shV (s v : Int32) : Int32 := if s = 0 then v.toInt8.toInt32 else if s = 1 then v.toInt16.toInt32 else v

set_option maxRecDepth 100000 in
set_option maxHeartbeats 4000000 in
theorem c_fill (t : CT) (M : MM) {s : Nat} (hs : s < 4) (x : Int32) : XMet (wC t) yJ7_fill_53178 cJ7_fill_53178 4 none 1 [.ref (t.1 (55 + 2 * s)), .int x] M (rU (fM M s 40 x)) := by
  refine x_met RJ7 (by decide) rfl (Nat.le_of_ble_eq_true rfl) (fun κ C X E => ?_)
  refine x_L (L' := [(0, .ref (t.1 (55 + 2 * s))), (1, .int x)]) rfl ?_
  refine x_iconst (pc := 0) (v := (nI 0)) C dJ7_fill_53178_0 (by decide) ?_
  refine x_istore_n (pc := 1) (L' := [(2, .int (nI 0)), (0, .ref (t.1 (55 + 2 * s))), (1, .int x)]) C dJ7_fill_53178_1 (by decide) rfl ?_
  refine x_aload_n (pc := 2) C 1 dJ7_fill_53178_2 rfl ?_
  refine n_row (pc := 3) C E hs dJ7_fill_53178_3 ?_
  refine x_eq (show 40 = nI 40 from rfl) ?_
  refine x_istore_n (pc := 4) (L' := [(3, .int (nI 40)), (2, .int (nI 0)), (0, .ref (t.1 (55 + 2 * s))), (1, .int x)]) C dJ7_fill_53178_4 (by decide) rfl ?_
  have loop5 : ∀ (k f : Nat) (y : Int32) (Mx : MM) , f + k = 40 → y = nI f → Mx = fM M s f x → XV κ (xP (wC t) Mx) 5 [(3, .int (nI 40)), (2, .int y), (0, .ref (t.1 (55 + 2 * s))), (1, .int x)] [] := by
    intro k
    induction k with
      | zero =>
        intro f y Mx  hcnt ey eMx
        subst ey
        subst eMx
        obtain rfl : 40 = f := by omega
        refine x_iload_n (pc := 5) C 1 dJ7_fill_53178_5 rfl ?_
        refine x_iload_n (pc := 6) C 0 dJ7_fill_53178_6 rfl ?_
        refine x_icmp_ge_t (pc := 7) C 20 dJ7_fill_53178_7 (by decide) (nI_le (by omega) (by omega)) ?_
        exact x_vret (pc := 20) C X dJ7_fill_53178_20 ⟨rfl, rfl⟩
      | succ k ih =>
        intro f y Mx  hcnt ey eMx
        subst ey
        subst eMx
        have hi5 : f < 40 := by omega
        refine x_iload_n (pc := 5) C 1 dJ7_fill_53178_5 rfl ?_
        refine x_iload_n (pc := 6) C 0 dJ7_fill_53178_6 rfl ?_
        refine x_icmp_ge_f (pc := 7) C 20 dJ7_fill_53178_7 (by decide) (nI_ge (by omega) (by omega)) ?_
        refine x_aload_n (pc := 10) C 2 dJ7_fill_53178_10 rfl ?_
        refine x_iload_n (pc := 11) C 1 dJ7_fill_53178_11 rfl ?_
        refine x_iload_n (pc := 12) C 3 dJ7_fill_53178_12 rfl ?_
        refine s_row (pc := 13) C E hs (by omega) dJ7_fill_53178_13 ?_
        refine x_iinc (pc := 14) (v := nI (f + 1)) (L' := [(2, .int (nI (f + 1))), (3, .int (nI 40)), (0, .ref (t.1 (55 + 2 * s))), (1, .int x)]) C 1 dJ7_fill_53178_14 rfl (nI_1 _) (by decide) rfl ?_
        refine x_goto (pc := 17) C 5 dJ7_fill_53178_17 (by decide) ?_
        refine x_sub [1, 0, 2, 3] rfl ?_
        exact ih (f + 1) _ _ (by omega) rfl (fM_S M s f x)
  refine x_sub [0, 1, 2, 3] rfl ?_
  exact loop5 40 0 _ M (by omega) rfl (fM_0 M s x).symm

set_option maxRecDepth 100000 in
set_option maxHeartbeats 4000000 in
theorem c_X8_become (t : CT) (M : MM) {s : Nat} (hs : s < 4) (x y : Int32) : XMet (wC t) yX8_become cX8_become 3 none 2 [.ref (t.1 (54 + 2 * s)), .int x, .int y] M (rU (shB M s x y)) := by
  refine x_met RX8 (by decide) rfl (Nat.le_of_ble_eq_true rfl) (fun κ C X E => ?_)
  refine x_L (L' := [(0, .ref (t.1 (54 + 2 * s))), (1, .int x), (2, .int y)]) rfl ?_
  refine x_aload_n (pc := 0) C 0 dX8_become_0 rfl ?_
  refine x_iload_n (pc := 1) C 1 dX8_become_1 rfl ?_
  refine p_Sheet_sort (pc := 2) C E hs q5_17 dX8_become_2 ?_
  refine x_aload_n (pc := 5) C 0 dX8_become_5 rfl ?_
  refine x_iload_n (pc := 6) C 2 dX8_become_6 rfl ?_
  refine p_Sheet_size (pc := 7) C E hs q43_2 dX8_become_7 ?_
  refine x_aload_n (pc := 10) C 0 dX8_become_10 rfl ?_
  refine g_Sheet_row (pc := 11) C E hs q5_16 dX8_become_11 ?_
  refine x_iconst (pc := 14) (v := 0) C dX8_become_14 rfl ?_
  refine x_callS (pc := 15) C E [.ref (t.1 (55 + 2 * s)), .int 0] [] (c_fill t _ hs 0) m_J7_fill_53178 q43_3 rfl (by decide) (Nat.le_of_ble_eq_true rfl) dX8_become_15 rfl (k_U ?_)
  exact x_vret (pc := 18) C X dX8_become_18 ⟨rfl, rfl⟩

set_option maxRecDepth 100000 in
set_option maxHeartbeats 4000000 in
theorem c_X8_isMissing (t : CT) (M : MM) {s : Nat} (hs : s < 4)  : XMet (wC t) yX8_isMissing cX8_isMissing 1 (some .boolean) 1 [.ref (t.1 (54 + 2 * s))] M (rI (b2i (decide (M (54 + 2 * s) 1 = -1))) M) := by
  refine x_met RX8 (by decide) rfl (Nat.le_of_ble_eq_true rfl) (fun κ C X E => ?_)
  refine x_L (L' := [(0, .ref (t.1 (54 + 2 * s)))]) rfl ?_
  refine x_aload_n (pc := 0) C 0 dX8_isMissing_0 rfl ?_
  refine g_Sheet_sort (pc := 1) C E hs q5_17 dX8_isMissing_1 ?_
  refine x_iconst (pc := 4) (v := (-1)) C dX8_isMissing_4 rfl ?_
  refine x_icmp_ne (pc := 5) C 12 dX8_isMissing_5 (by decide) (fun h5 => ?_) (fun h5 => ?_)
  · refine x_iconst (pc := 12) (v := 0) C dX8_isMissing_12 rfl ?_
    exact x_bret (pc := 13) C X (b := false) rfl dX8_isMissing_13 (rI_b (by simp [h5]))
  · refine x_iconst (pc := 8) (v := 1) C dX8_isMissing_8 rfl ?_
    refine x_goto (pc := 9) C 13 dX8_isMissing_9 (by decide) ?_
    exact x_bret (pc := 13) C X (b := true) rfl dX8_isMissing_13 (rI_b (by simp [h5]))

set_option maxRecDepth 100000 in
set_option maxHeartbeats 4000000 in
theorem c_X8_has (t : CT) (M : MM) {s : Nat} (hs : s < 4) {n : Nat} (hn : M (54 + 2 * s) 2 = nI n) (h40 : n ≤ 40) (x : Int32) : XMet (wC t) yX8_has cX8_has 2 (some .boolean) 1 [.ref (t.1 (54 + 2 * s)), .int x] M (rI (b2i (inB x n)) M) := by
  refine x_met RX8 (by decide) rfl (Nat.le_of_ble_eq_true rfl) (fun κ C X E => ?_)
  refine x_L (L' := [(0, .ref (t.1 (54 + 2 * s))), (1, .int x)]) rfl ?_
  have h31 : (nI n).toInt = n := nI_toInt (by omega)
  refine x_iload_n (pc := 0) C 1 dX8_has_0 rfl ?_
  refine x_if_lt (pc := 1) C 16 dX8_has_1 (by decide) (fun h1 => ?_) (fun h1 => ?_)
  · refine x_iconst (pc := 16) (v := 0) C dX8_has_16 rfl ?_
    exact x_bret (pc := 17) C X (b := false) rfl dX8_has_17 (rI_b (Eq.symm (inB_f.mpr (by rw [i_lt] at *; simp only [i_le, i_lt, h31, li_0] at *; omega))))
  · refine x_iload_n (pc := 4) C 1 dX8_has_4 rfl ?_
    refine x_aload_n (pc := 5) C 0 dX8_has_5 rfl ?_
    refine g_Sheet_size (pc := 6) C E hs q43_2 dX8_has_6 ?_
    refine x_eq (show M (54 + 2 * s) 2 = nI n from hn) ?_
    refine x_icmp_ge (pc := 9) C 16 dX8_has_9 (by decide) (fun h9 => ?_) (fun h9 => ?_)
    · refine x_iconst (pc := 16) (v := 0) C dX8_has_16 rfl ?_
      exact x_bret (pc := 17) C X (b := false) rfl dX8_has_17 (rI_b (Eq.symm (inB_f.mpr (by rw [i_lt] at *; simp only [i_le, i_lt, h31, li_0] at *; omega))))
    · refine x_iconst (pc := 12) (v := 1) C dX8_has_12 rfl ?_
      refine x_goto (pc := 13) C 17 dX8_has_13 (by decide) ?_
      exact x_bret (pc := 17) C X (b := true) rfl dX8_has_17 (rI_b (Eq.symm (inB_t.mpr (by rw [i_lt] at *; simp only [i_le, i_lt, h31, li_0] at *; omega))))

set_option maxRecDepth 100000 in
set_option maxHeartbeats 4000000 in
theorem c_X8_put (t : CT) (M : MM) {s : Nat} (hs : s < 4) {i : Nat} (hi : i < 40) (v : Int32) : XMet (wC t) yX8_put cX8_put 3 none 1 [.ref (t.1 (54 + 2 * s)), .int (nI i), .int v] M (rU (mu M (55 + 2 * s) i (shV (M (54 + 2 * s) 1) v))) := by
  refine x_met RX8 (by decide) rfl (Nat.le_of_ble_eq_true rfl) (fun κ C X E => ?_)
  refine x_L (L' := [(0, .ref (t.1 (54 + 2 * s))), (1, .int (nI i)), (2, .int v)]) rfl ?_
  refine x_aload_n (pc := 0) C 0 dX8_put_0 rfl ?_
  refine g_Sheet_sort (pc := 1) C E hs q5_17 dX8_put_1 ?_
  refine x_if_ne (pc := 4) C 18 dX8_put_4 (by decide) (fun h4 => ?_) (fun h4 => ?_)
  · refine x_aload_n (pc := 18) C 0 dX8_put_18 rfl ?_
    refine g_Sheet_row (pc := 19) C E hs q5_16 dX8_put_19 ?_
    refine x_iload_n (pc := 22) C 1 dX8_put_22 rfl ?_
    refine x_aload_n (pc := 23) C 0 dX8_put_23 rfl ?_
    refine g_Sheet_sort (pc := 24) C E hs q5_17 dX8_put_24 ?_
    refine x_iconst (pc := 27) (v := 1) C dX8_put_27 rfl ?_
    refine x_icmp_ne (pc := 28) C 36 dX8_put_28 (by decide) (fun h28 => ?_) (fun h28 => ?_)
    · refine x_iload_n (pc := 36) C 2 dX8_put_36 rfl ?_
      refine s_row (pc := 37) C E hs (by omega) dX8_put_37 ?_
      exact x_vret (pc := 38) C X dX8_put_38 ⟨rfl, by unfold shV; first | rw [if_pos h4] | rw [if_neg h4, if_pos h28] | rw [if_neg h4, if_neg h28]⟩
    · refine x_iload_n (pc := 31) C 2 dX8_put_31 rfl ?_
      refine x_i2s (pc := 32) C dX8_put_32 ?_
      refine x_goto (pc := 33) C 37 dX8_put_33 (by decide) ?_
      refine s_row (pc := 37) C E hs (by omega) dX8_put_37 ?_
      exact x_vret (pc := 38) C X dX8_put_38 ⟨rfl, by unfold shV; first | rw [if_pos h4] | rw [if_neg h4, if_pos h28] | rw [if_neg h4, if_neg h28]⟩
  · refine x_aload_n (pc := 7) C 0 dX8_put_7 rfl ?_
    refine g_Sheet_row (pc := 8) C E hs q5_16 dX8_put_8 ?_
    refine x_iload_n (pc := 11) C 1 dX8_put_11 rfl ?_
    refine x_iload_n (pc := 12) C 2 dX8_put_12 rfl ?_
    refine x_i2b (pc := 13) C dX8_put_13 ?_
    refine s_row (pc := 14) C E hs (by omega) dX8_put_14 ?_
    refine x_goto (pc := 15) C 38 dX8_put_15 (by decide) ?_
    exact x_vret (pc := 38) C X dX8_put_38 ⟨rfl, by unfold shV; first | rw [if_pos h4] | rw [if_neg h4, if_pos h28] | rw [if_neg h4, if_neg h28]⟩

/-! WHAT EACH CALL ANSWERS AND LEAVES, said of the state alone -/
def oN (x : Int32) : Nat := x.toInt.toNat
theorem oN_nI {n : Nat} (h : n < 2 ^ 31) : oN (nI n) = n := by
  unfold oN
  rw [nI_toInt h]
  rfl
def setV (σ : SV) (v : WV) : SV := (v, σ.2)
def setB (σ : SV) (b : Nat) (y : Nat → Int32) : SV := (σ.1, σ.2.1, σ.2.2.1, (b, y), σ.2.2.2.2)
def setK (σ : SV) (o : Option WV) : SV := (σ.1, σ.2.1, o, σ.2.2.2)
def setH (σ : SV) (s : Nat) (h : Int32 × Nat × (Nat → Int32)) : SV := (σ.1, σ.2.1, σ.2.2.1, σ.2.2.2.1, fun k => if k = s then h else sH σ k)
def vDay (v : WV) (x : Int32) : WV := (x, v.2)
def vRul (v : WV) (q : Nat) : WV := (vD v, q, v.2.2)
def vNum (v : WV) (d : Nat) (x : Int32) : WV := (vD v, vR v, vN v, vK v, (fun k => if k = d then x else vU v k), v.2.2.2.2.2)
def vSin (v : WV) (d : Nat) (x : Int32) : WV := (vD v, vR v, vN v, vK v, vU v, (fun k => if k = d then x else vS v k), v.2.2.2.2.2.2)
def vKin (v : WV) (d k' : Nat) : WV := (vD v, vR v, vN v, (fun k => if k = d then k' else vK v k), v.2.2.2.2)
def vNew (v : WV) (k : Nat) (x : Int32) : WV := (vD v, vR v, vN v + 1, (fun d => if d = vN v then k else vK v d), (fun d => if d = vN v then x else vU v d), (fun d => if d = vN v then vD v else vS v d), (fun d f => if d = vN v then -1 else vC v d f), (fun d f => if d = vN v then -100 else vT v d f))
def two (σ : SV) (a b : Int32) : Bool := inB a (vN (sV σ)) && inB b (vN (sV σ)) && !decide (a = b)
def o_set (σ : SV) (w o x : Int32) : SV × Int32 :=
  if inB w 3 = false ∨ (w ≠ 0 ∧ inB o (vN (sV σ)) = false) ∨ inB x 1000 = false ∨ (w = 1 ∧ inB x 10 = false) then (σ, -2)
  else if w = 0 then (setV σ (vDay (sV σ) x), vD (sV σ))
  else if w = 1 then (setV σ (vNum (sV σ) (oN o) x), vU (sV σ) (oN o))
  else (setV σ (vSin (sV σ) (oN o) x), vS (sV σ) (oN o))
def o_disk (σ : SV) (k x : Int32) : SV × Int32 :=
  if inB k 6 = false ∨ inB x 10 = false then (σ, -2)
  else if vN (sV σ) = 6 then (σ, -4)
  else (setV σ (vNew (sV σ) (oN k) x), nI (vN (sV σ)))
def a_told (σ : SV) (o w : Int32) : Int32 :=
  if w = 0 then vD (sV σ)
  else if inB w 9 = false ∨ inB o (vN (sV σ)) = false then -2
  else if w = 1 then vU (sV σ) (oN o)
  else if w = 2 then vS (sV σ) (oN o)
  else if w = 3 then nI (vK (sV σ) (oN o))
  else if w = 4 then b2i (vRd (sV σ) (oN o))
  else if w = 5 then kStamp (vK (sV σ) (oN o)) (vD (sV σ)) (vU (sV σ) (oN o))
  else if w = 6 then kRoom (vK (sV σ) (oN o)) (vU (sV σ) (oN o))
  else if w = 7 then nI (vCn (sV σ) (oN o))
  else sLi σ (vR (sV σ)) (vU (sV σ) (oN o))
def a_file (σ : SV) (d f w : Int32) : Int32 :=
  if inB d (vN (sV σ)) = false ∨ inB f 8 = false ∨ inB w 2 = false then -2
  else if w = 0 then vC (sV σ) (oN d) (oN f) else vT (sV σ) (oN d) (oN f)
def o_feed (σ : SV) (x : Int32) : SV × Int32 :=
  if inB x 256 = false then (σ, -2) else if sB σ = 160 then (σ, -4)
  else (setB σ (sB σ + 1) (fun k => if k = sB σ then x else sY σ k), nI (sB σ + 1))
def o_force (σ : SV) (x : Int32) : SV × Int32 :=
  if inB x (sN σ) = false then (σ, -2) else (setV σ (vRul (sV σ) (oN x)), nI (vR (sV σ)))
def o_write (σ : SV) (d f c : Int32) : SV × Int32 :=
  if inB d (vN (sV σ)) = false ∨ inB f 8 = false ∨ inB c 1000 = false then (σ, -2)
  else if vRd (sV σ) (oN d) = false then (σ, -3)
  else if vTi (sV σ) (oN d) (oN f) = false then (σ, -4)
  else (setV σ (vSet (sV σ) (oN d) (oN f) (kKeeps (vK (sV σ) (oN d)) c) (kStamp (vK (sV σ) (oN d)) (vD (sV σ)) (vU (sV σ) (oN d)))), kKeeps (vK (sV σ) (oN d)) c)
def o_lose (σ : SV) (d f : Int32) : SV × Int32 :=
  if inB d (vN (sV σ)) = false ∨ inB f 8 = false then (σ, -2)
  else if vRd (sV σ) (oN d) = false then (σ, -3)
  else (setV σ (vSet (sV σ) (oN d) (oN f) (-1) (-100)), vC (sV σ) (oN d) (oN f))
/-- a value that is not to be looked into -/
def lockW (x : WV × Nat) (n : Nat) : WV × Nat := if n = 0 then x else lockW x (n - 1)
termination_by n
def sCp (σ : SV) (v : WV) (a b : Nat) : WV × Nat := lockW (vCp v a b (sT σ (vR (sV σ)) 0) 8) 0
theorem sCp_eq (σ : SV) (v : WV) (a b : Nat) : vCp v a b (sT σ (vR (sV σ)) 0) 8 = sCp σ v a b := by
  unfold sCp
  rw [lockW, if_pos rfl]
def o_copies (σ : SV) (a b : Int32) : SV × Int32 :=
  if two σ a b = false then (σ, -2)
  else if (vRd (sV σ) (oN a) && vRd (sV σ) (oN b)) = false then (σ, -3)
  else (setV σ (sCp σ (sV σ) (oN a) (oN b)).1, nI (sCp σ (sV σ) (oN a) (oN b)).2)
def a_on (σ : SV) (f : Int32) : Int32 := if inB f 8 = false then -2 else mk (vOn (sV σ) (oN f)) (vN (sV σ))
def a_newest (σ : SV) (f w : Int32) : Int32 :=
  if inB f 8 = false ∨ inB w 3 = false then -2
  else match vNh (sV σ) (oN f) (vN (sV σ)) with
    | none => if w = 2 then -100 else -1
    | some d => if w = 0 then nI d else if w = 1 then vC (sV σ) d (oN f) else vT (sV σ) d (oN f)
/-- the worths of the files for which p stands -/
def sWs (σ : SV) (p : Nat → Bool) : Nat → Int32
  | 0 => 0
  | f + 1 => if p f then sWs σ p f + sWo σ (vR (sV σ)) f else sWs σ p f
def sRs (σ : SV) : Int32 := mk (vRd (sV σ)) (vN (sV σ))
def a_all (σ : SV) (w : Int32) : Int32 :=
  if inB w 9 = false then -2
  else if w = 0 then mk (vDu (sV σ)) 8
  else if w = 7 then vLost (sV σ)
  else if w = 8 then sWs σ (bt (vOr (sV σ) (bt (sRs σ)))) 8
  else vSafe (sV σ) w
def a_count (σ : SV) (w : Int32) : Int32 :=
  if w = 0 then nI (vN (sV σ)) else if w = 1 then nI (cnt (vRd (sV σ)) (vN (sV σ))) else if w = 2 then nI (vCc (sV σ) (vN (sV σ)))
  else if w = 3 then nI (sN σ) else if w = 4 then nI (sB σ) else if w = 5 then nI (vR (sV σ)) else -2
def o_image (σ : SV) : SV × Int32 := (setK σ (some (sV σ)), nI (vN (sV σ)))
def o_back (σ : SV) : SV × Int32 := match sK σ with
  | none => (σ, -3)
  | some u => (setV σ u, nI (vN u))
def o_sheet (σ : SV) (s x n : Int32) : SV × Int32 :=
  if inB s 4 = false ∨ ¬ (-1 ≤ x.toInt ∧ x.toInt ≤ 2) then (σ, -2)
  else if x = -1 then (setH σ (oN s) (-1, 0, fun _ => 0), 1)
  else if 40 < n.toInt then (σ, -2)
  else if n.toInt < 0 then (σ, -14)
  else (setH σ (oN s) (x, oN n, fun _ => 0), 1)
def o_cell (σ : SV) (s i x : Int32) : SV × Int32 :=
  if inB s 4 = false then (σ, -2)
  else if (sH σ (oN s)).1 = -1 then (σ, -11)
  else if inB i (sH σ (oN s)).2.1 = false then (σ, -12)
  else (setH σ (oN s) ((sH σ (oN s)).1, (sH σ (oN s)).2.1, fun k => if k = oN i then shV (sH σ (oN s)).1 x else (sH σ (oN s)).2.2 k), 1)
def o_copy (σ : SV) (s i s2 j n : Int32) : SV × Int32 :=
  if inB s 4 = false ∨ inB s2 4 = false then (σ, -2)
  else if (sH σ (oN s)).1 = -1 ∨ (sH σ (oN s2)).1 = -1 then (σ, -11)
  else if (sH σ (oN s)).1 ≠ (sH σ (oN s2)).1 then (σ, -13)
  else if hpB i n (sH σ (oN s)).2.1 = false ∨ hpB j n (sH σ (oN s2)).2.1 = false then (σ, -12)
  else (setH σ (oN s2) ((sH σ (oN s2)).1, (sH σ (oN s2)).2.1, va_cpy (sH σ (oN s)).2.2 (sH σ (oN s2)).2.2 (oN i) (oN j) (oN n)), n)
def a_taken (σ : SV) (d k : Int32) : Int32 :=
  if inB k 6 = false then -2
  else if inB d (vN (sV σ)) = false then -11
  else if (k = 0 ∨ k = nI (vK (sV σ) (oN d)) ∨ (k = 1 ∧ vK (sV σ) (oN d) = 3) ∨ (k = 2 ∧ vK (sV σ) (oN d) = 4)) then vU (sV σ) (oN d) else -13
def film1 (σ : SV) (s d : Nat) : Nat → SV
  | 0 => setH σ s (1, 8, fun _ => 0)
  | f + 1 => setH (film1 σ s d f) s (1, 8, fun k => if k = f then shV 1 (vC (sV σ) d f) else (sH (film1 σ s d f) s).2.2 k)
def o_film (σ : SV) (s d : Int32) : SV × Int32 :=
  if inB s 4 = false ∨ inB d (vN (sV σ)) = false then (σ, -2) else (film1 σ (oN s) (oN d) 8, 8)
/-! contracts' ends -/
def oR (F : SV × Int32) : XF := fun r M' => r = some (.int F.2) ∧ RC F.1 M'
def aR (σ : SV) (x : Int32) : XF := fun r M' => r = some (.int x) ∧ RC σ M'
theorem fin {σ' : SV} {x : Int32} {M' : MM} {F : SV × Int32} (e : F = (σ', x)) (h : RC σ' M') : oR F (some (.int x)) M' := by
  subst e
  exact ⟨rfl, h⟩
theorem fia {σ : SV} {x y : Int32} {M' : MM} (e : y = x) (h : RC σ M') : aR σ y (some (.int x)) M' := by
  subst e
  exact ⟨rfl, h⟩
theorem nsub_toInt {n : Nat} (hn : n < 2 ^ 31) {y : Int32} (hy : 0 ≤ y.toInt) : (nI n - y).toInt = n - y.toInt := by
  have h1 := y.toInt_lt
  rw [Int32.toInt_sub, nI_toInt hn]
  exact Int.bmod_eq_of_le (by omega) (by omega)

set_option maxRecDepth 100000 in
set_option maxHeartbeats 4000000 in
theorem c_X8_hasPart (t : CT) (M : MM) {s : Nat} (hs : s < 4) {n : Nat} (hn : M (54 + 2 * s) 2 = nI n) (h40 : n ≤ 40) (x y : Int32) : XMet (wC t) yX8_hasPart cX8_hasPart 3 (some .boolean) 1 [.ref (t.1 (54 + 2 * s)), .int x, .int y] M (rI (b2i (hpB x y n)) M) := by
  refine x_met RX8 (by decide) rfl (Nat.le_of_ble_eq_true rfl) (fun κ C X E => ?_)
  refine x_L (L' := [(0, .ref (t.1 (54 + 2 * s))), (1, .int x), (2, .int y)]) rfl ?_
  refine x_iload_n (pc := 0) C 2 dX8_hasPart_0 rfl ?_
  refine x_if_lt (pc := 1) C 22 dX8_hasPart_1 (by decide) (fun h1 => ?_) (fun h1 => ?_)
  · refine x_iconst (pc := 22) (v := 0) C dX8_hasPart_22 rfl ?_
    exact x_bret (pc := 23) C X (b := false) rfl dX8_hasPart_23 (rI_b (Eq.symm (by unfold hpB; exact decide_eq_false (by simp only [i_lt, i_le, li_0] at *; omega))))
  · refine x_iload_n (pc := 4) C 1 dX8_hasPart_4 rfl ?_
    refine x_if_lt (pc := 5) C 22 dX8_hasPart_5 (by decide) (fun h5 => ?_) (fun h5 => ?_)
    · refine x_iconst (pc := 22) (v := 0) C dX8_hasPart_22 rfl ?_
      exact x_bret (pc := 23) C X (b := false) rfl dX8_hasPart_23 (rI_b (Eq.symm (by unfold hpB; exact decide_eq_false (by simp only [i_lt, i_le, li_0] at *; omega))))
    · refine x_iload_n (pc := 8) C 1 dX8_hasPart_8 rfl ?_
      refine x_aload_n (pc := 9) C 0 dX8_hasPart_9 rfl ?_
      refine g_Sheet_size (pc := 10) C E hs q43_2 dX8_hasPart_10 ?_
      refine x_eq (show M (54 + 2 * s) 2 = nI n from hn) ?_
      refine x_iload_n (pc := 13) C 2 dX8_hasPart_13 rfl ?_
      refine x_isub (pc := 14) C dX8_hasPart_14 ?_
      have e15 := nsub_toInt (n := n) (by omega) (y := y) (by rw [i_lt, li_0] at h1; omega)
      refine x_icmp_gt (pc := 15) C 22 dX8_hasPart_15 (by decide) (fun h15 => ?_) (fun h15 => ?_)
      · refine x_iconst (pc := 22) (v := 0) C dX8_hasPart_22 rfl ?_
        exact x_bret (pc := 23) C X (b := false) rfl dX8_hasPart_23 (rI_b (Eq.symm (by unfold hpB; exact decide_eq_false (by simp only [i_lt, i_le, li_0] at *; omega))))
      · refine x_iconst (pc := 18) (v := 1) C dX8_hasPart_18 rfl ?_
        refine x_goto (pc := 19) C 23 dX8_hasPart_19 (by decide) ?_
        exact x_bret (pc := 23) C X (b := true) rfl dX8_hasPart_23 (rI_b (Eq.symm (by unfold hpB; exact decide_eq_true (by simp only [i_lt, i_le, li_0] at *; omega))))

set_option maxRecDepth 100000 in
set_option maxHeartbeats 4000000 in
theorem c_X11_rule (t : CT) {σ : SV} {M : MM} (h : RC σ M) : XMet (wC t) yX11_rule cX11_rule 1 (some (.object "InTheOldOne$Rule")) 1 [.ref (t.1 0)] M (rA (t.1 (19 + 5 * vR (sV σ))) M) := by
  refine x_met RX11 (by decide) rfl (Nat.le_of_ble_eq_true rfl) (fun κ C X E => ?_)
  refine x_L (L' := [(0, .ref (t.1 0))]) rfl ?_
  have hn6 := rc_n6 h
  have hq6 := rc_q6 h
  have hq := rc_q h
  have hN6 := h.1.1
  have hB := h.1.2.1
  refine x_aload_n (pc := 0) C 0 dX11_rule_0 rfl ?_
  refine g_main_texts (pc := 1) C E q1_15 dX11_rule_1 ?_
  refine x_aload_n (pc := 4) C 0 dX11_rule_4 rfl ?_
  refine g_main_now (pc := 5) C E q2_1 dX11_rule_5 ?_
  refine g_World_rule (pc := 8) C E (i := 0) (by omega) q23_19 dX11_rule_8 ?_
  refine x_eq (show M (7 + 0) 1 = nI (vR (sV σ)) from rc_rule h) ?_
  refine l_texts (pc := 11) C E (by omega) dX11_rule_11 ?_
  exact x_aret (pc := 12) C X dX11_rule_12 ⟨rfl, rfl⟩

set_option maxRecDepth 100000 in
set_option maxHeartbeats 4000000 in
theorem c_X11_areTwo (t : CT) {σ : SV} {M : MM} (h : RC σ M)(x1 x2 : Int32) : XMet (wC t) yX11_areTwo cX11_areTwo 3 (some .boolean) 3 [.ref (t.1 0), .int x1, .int x2] M (rI (b2i (two σ x1 x2)) M) := by
  refine x_met RX11 (by decide) rfl (Nat.le_of_ble_eq_true rfl) (fun κ C X E => ?_)
  refine x_L (L' := [(0, .ref (t.1 0)), (1, .int x1), (2, .int x2)]) rfl ?_
  have hn6 := rc_n6 h
  have hq6 := rc_q6 h
  have hq := rc_q h
  have hN6 := h.1.1
  have hB := h.1.2.1
  refine x_aload_n (pc := 0) C 0 dX11_areTwo_0 rfl ?_
  refine g_main_now (pc := 1) C E q2_1 dX11_areTwo_1 ?_
  refine x_iload_n (pc := 4) C 1 dX11_areTwo_4 rfl ?_
  refine x_callV (pc := 5) C E [.int x1] [] (w_has t (by decide : 0 < 3) h.2.1 _) m_X10_has q12_18 (xo_World (i := 0) (by omega)) rfl (by decide) (Nat.le_of_ble_eq_true rfl) dX11_areTwo_5 rfl (k_I ?_)
  refine x_ifb_eq (pc := 8) C 31 dX11_areTwo_8 (by decide) (fun h8 => ?_) (fun h8 => ?_)
  · refine x_iconst (pc := 31) (v := 0) C dX11_areTwo_31 rfl ?_
    exact x_bret (pc := 32) C X (b := false) rfl dX11_areTwo_32 (rI_b (by unfold two; first | (simp [h8]; done) | (simp [h8, h19]; done) | (simp [h8, h19, h24]; done)))
  · refine x_aload_n (pc := 11) C 0 dX11_areTwo_11 rfl ?_
    refine g_main_now (pc := 12) C E q2_1 dX11_areTwo_12 ?_
    refine x_iload_n (pc := 15) C 2 dX11_areTwo_15 rfl ?_
    refine x_callV (pc := 16) C E [.int x2] [] (w_has t (by decide : 0 < 3) h.2.1 _) m_X10_has q12_18 (xo_World (i := 0) (by omega)) rfl (by decide) (Nat.le_of_ble_eq_true rfl) dX11_areTwo_16 rfl (k_I ?_)
    refine x_ifb_eq (pc := 19) C 31 dX11_areTwo_19 (by decide) (fun h19 => ?_) (fun h19 => ?_)
    · refine x_iconst (pc := 31) (v := 0) C dX11_areTwo_31 rfl ?_
      exact x_bret (pc := 32) C X (b := false) rfl dX11_areTwo_32 (rI_b (by unfold two; first | (simp [h8]; done) | (simp [h8, h19]; done) | (simp [h8, h19, h24]; done)))
    · refine x_iload_n (pc := 22) C 1 dX11_areTwo_22 rfl ?_
      refine x_iload_n (pc := 23) C 2 dX11_areTwo_23 rfl ?_
      refine x_icmp_eq (pc := 24) C 31 dX11_areTwo_24 (by decide) (fun h24 => ?_) (fun h24 => ?_)
      · refine x_iconst (pc := 31) (v := 0) C dX11_areTwo_31 rfl ?_
        exact x_bret (pc := 32) C X (b := false) rfl dX11_areTwo_32 (rI_b (by unfold two; first | (simp [h8]; done) | (simp [h8, h19]; done) | (simp [h8, h19, h24]; done)))
      · refine x_iconst (pc := 27) (v := 1) C dX11_areTwo_27 rfl ?_
        refine x_goto (pc := 28) C 32 dX11_areTwo_28 (by decide) ?_
        exact x_bret (pc := 32) C X (b := true) rfl dX11_areTwo_32 (rI_b (by unfold two; first | (simp [h8]; done) | (simp [h8, h19]; done) | (simp [h8, h19, h24]; done)))

