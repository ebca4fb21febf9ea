/-! the reference's sets -/
def vOnG (v : WV) (gn : Int32) (f d : Nat) : Bool := vOn v f d && !bt gn d
theorem vOnG_0 (v : WV) (f d : Nat) : vOnG v 0 f d = vOn v f d := by
  unfold vOnG
  rw [b_0]
  exact Bool.and_true _
theorem mk_z {p : Nat → Bool} {n : Nat} (h : p n = false) : mk p n ||| ((0 : Int32) <<< (nI n &&& 31)) = mk p (n + 1) := by
  rw [mk_S, h]
  rfl
def kb8 (a : Nat) : Nat := cnt (fun i => Nat.testBit a i) 8
theorem kb8_0 : ∀ a, a < 256 → kb8 a = 0 → a = 0 := by decide +kernel
theorem kb8_S : ∀ a, a < 256 → a ≠ 0 → (nI a &&& (nI a - nI 1)) = nI (a &&& (a - 1)) ∧ (a &&& (a - 1)) < 256 ∧ kb8 (a &&& (a - 1)) + 1 = kb8 a := by decide +kernel
theorem kb8_bt : ∀ a, a < 256 → ∀ i, i < 8 → bt (nI a) i = Nat.testBit a i := by decide +kernel
theorem cnt_pad {p : Nat → Bool} {n : Nat} : ∀ k, (∀ i, n ≤ i → i < n + k → p i = false) → cnt p (n + k) = cnt p n := by
  intro k
  induction k with
  | zero => intro _; rfl
  | succ k ih =>
    intro h
    show cnt p (n + k + 1) = _
    rw [cnt_S, ih (fun i h1 h2 => h i h1 (by omega)), h (n + k) (by omega) (by omega)]
    rfl
theorem kb8_mk {p : Nat → Bool} {n a : Nat} (hn : n ≤ 8) (ha : a < 256) (h : mk p n = nI a) : kb8 a = cnt p n := by
  have h1 : ∀ i, i < 8 → Nat.testBit a i = (decide (i < n) && p i) := fun i hi => by
    rw [← kb8_bt a ha i hi, ← h, bt_mk p n (by omega) i (by omega)]
  unfold kb8
  rw [cnt_congr h1]
  have h2 := cnt_pad (p := fun i => decide (i < n) && p i) (n := n) (8 - n) (fun i g1 g2 => by
    show (decide (i < n) && p i) = false
    rw [decide_eq_false (by omega)]; rfl)
  rw [show n + (8 - n) = 8 by omega] at h2
  rw [h2]
  exact cnt_congr fun i hi => by rw [decide_eq_true hi]; rfl
/-- the last one ahead of d that has the file -/
def ldF (v : WV) (f : Nat) : Nat → Option Nat
  | 0 => none
  | d + 1 => if vOn v f d = true then some d else ldF v f d
def lxF (v : WV) (f d : Nat) : Bool := vOn v f d && (match ldF v f d with | none => false | some e => !decide (vC v e f = vC v d f))
theorem ldF_lt {v : WV} {f e : Nat} : ∀ {d : Nat}, ldF v f d = some e → e < d ∧ vOn v f e = true := by
  intro d
  induction d with
  | zero => intro h; cases h
  | succ d ih =>
    intro h
    rw [ldF] at h
    split at h
    · rename_i g; cases h; exact ⟨by omega, g⟩
    · have := ih h; exact ⟨by omega, this.2⟩
theorem lxF_du {v : WV} {f : Nat} : anyN (lxF v f) (vN v) = vDu v f := by
  cases hv : vDu v f with
  | false =>
    cases hc : anyN (lxF v f) (vN v) with
    | false => rfl
    | true =>
      obtain ⟨d, hd, g⟩ := anyN_of hc
      unfold lxF at g
      rw [Bool.and_eq_true] at g
      cases ho : ldF v f d with
      | none => rw [ho] at g; cases g.2
      | some e =>
        rw [ho] at g
        obtain ⟨he, hon⟩ := ldF_lt ho
        have : vDu v f = true := anyN_t hd (by
          rw [g.1, Bool.true_and]
          exact anyN_t (d := e) (by omega) (by rw [hon]; exact g.2))
        rw [hv] at this; cases this
  | true =>
    cases hc : anyN (lxF v f) (vN v) with
    | true => rfl
    | false =>
      have key : ∀ n, n ≤ vN v → ∀ a b, a < n → b < n → vOn v f a = true → vOn v f b = true → vC v a f = vC v b f := by
        intro n
        induction n with
        | zero => intro _ a b ha; omega
        | succ n ih =>
          intro hn a b ha hb ga gb
          have one : ∀ a, a < n → vOn v f a = true → vOn v f n = true → vC v a f = vC v n f := by
            intro a ha ga gn
            have hl := anyN_f hc (show n < vN v by omega)
            unfold lxF at hl
            rw [gn, Bool.true_and] at hl
            cases ho : ldF v f n with
            | none =>
              exfalso
              have : ∀ m, a < m → ldF v f m ≠ none := by
                intro m
                induction m with
                | zero => intro h; omega
                | succ m ihm =>
                  intro h e
                  rw [ldF] at e
                  split at e
                  · cases e
                  · rename_i g
                    by_cases q : a = m
                    · subst q; exact g ga
                    · exact ihm (by omega) e
              exact this n ha ho
            | some e =>
              rw [ho] at hl
              obtain ⟨he, hon⟩ := ldF_lt ho
              have h2 : vC v e f = vC v n f := by simpa using hl
              rw [ih (by omega) a e ha he ga hon, h2]
          by_cases h1 : a = n
          · by_cases h2 : b = n
            · rw [h1, h2]
            · subst h1; exact (one b (by omega) gb ga).symm
          · by_cases h2 : b = n
            · subst h2; exact one a (by omega) ga gb
            · exact ih (by omega) a b (by omega) (by omega) ga gb
      obtain ⟨d, hd, g⟩ := anyN_of hv
      rw [Bool.and_eq_true] at g
      obtain ⟨e, he, g2⟩ := anyN_of g.2
      rw [Bool.and_eq_true] at g2
      have := key _ (Nat.le_refl _) e d he hd g2.1 g.1
      rw [decide_eq_true this] at g2
      cases g2.2
theorem b1_eq {b : Bool} : b2i b = 1 ↔ b = true := b2i_e1
set_option maxRecDepth 100000 in
set_option maxHeartbeats 800000 in
theorem c_X12_onOf (t : CT) {σ : SV} {M : MM} (h : RR σ M) {gn : Int32} (hg : M 0 28 = gn) {f : Nat} (hf : f < 8)  : XMet (wR t) yX12_onOf cX12_onOf 4 (some .int) 2 [.ref (t.1 0), .int (nI f)] M (rI (mk (vOnG (sV σ) gn f) (vN (sV σ))) M) := by
  refine x_met RX12 (by decide) rfl (Nat.le_of_ble_eq_true rfl) (fun κ C X E => ?_)
  refine x_L (L' := [(0, .ref (t.1 0)), (1, .int (nI f))]) rfl ?_
  have hn6 := rr_n6 h
  refine x_iconst (pc := 0) (v := 0) C dX12_onOf_0 rfl ?_
  refine x_istore_n (pc := 1) (L' := [(2, .int 0), (0, .ref (t.1 0)), (1, .int (nI f))]) C dX12_onOf_1 (by decide) rfl ?_
  refine x_iconst (pc := 2) (v := (nI 0)) C dX12_onOf_2 (by decide) ?_
  refine x_istore_n (pc := 3) (L' := [(3, .int (nI 0)), (2, .int 0), (0, .ref (t.1 0)), (1, .int (nI f))]) C dX12_onOf_3 (by decide) rfl ?_
  have loop4 : ∀ (k d : Nat) (x : Int32) (y : Int32) , d + k = vN (sV σ) → x = mk (vOnG (sV σ) gn f) d → y = nI d → XV κ (xP (wR t) M) 4 [(3, .int y), (2, .int x), (0, .ref (t.1 0)), (1, .int (nI f))] [] := by
    intro k
    induction k with
      | zero =>
        intro d x y  hcnt ex ey
        subst ex
        subst ey
        obtain rfl : vN (sV σ) = d := by omega
        refine x_iload_n (pc := 4) C 0 dX12_onOf_4 rfl ?_
        refine x_aload_n (pc := 5) C 2 dX12_onOf_5 rfl ?_
        refine g_M_many (pc := 6) C E q13_13 dX12_onOf_6 ?_
        refine x_eq (show M 0 12 = nI (vN (sV (σ))) from (rr_size h)) ?_
        refine x_icmp_ge_t (pc := 9) C 62 dX12_onOf_9 (by decide) (nI_le (by omega) (by omega)) ?_
        refine x_iload_n (pc := 62) C 1 dX12_onOf_62 rfl ?_
        exact x_iret (pc := 63) C X dX12_onOf_63 (rI_i rfl)
      | succ k ih =>
        intro d x y  hcnt ex ey
        subst ex
        subst ey
        have hi4 : d < vN (sV σ) := by omega
        refine x_iload_n (pc := 4) C 0 dX12_onOf_4 rfl ?_
        refine x_aload_n (pc := 5) C 2 dX12_onOf_5 rfl ?_
        refine g_M_many (pc := 6) C E q13_13 dX12_onOf_6 ?_
        refine x_eq (show M 0 12 = nI (vN (sV (σ))) from (rr_size h)) ?_
        refine x_icmp_ge_f (pc := 9) C 62 dX12_onOf_9 (by decide) (nI_ge (by omega) (by omega)) ?_
        refine x_iload_n (pc := 12) C 1 dX12_onOf_12 rfl ?_
        refine x_aload_n (pc := 13) C 2 dX12_onOf_13 rfl ?_
        refine g_M_contents (pc := 14) C E q11_17 dX12_onOf_14 ?_
        refine x_bipush (pc := 17) (v := (nI 8)) C dX12_onOf_17 (by decide) ?_
        refine x_iload_n (pc := 19) C 0 dX12_onOf_19 rfl ?_
        refine x_imul (pc := 20) C dX12_onOf_20 ?_
        refine x_eq (show (nI 8) * (nI d) = nI (8 * d) from pk_mul _ _) ?_
        refine x_iload_n (pc := 21) C 3 dX12_onOf_21 rfl ?_
        refine x_iadd (pc := 22) C dX12_onOf_22 ?_
        refine x_eq (show (nI (8 * d)) + (nI f) = nI (8 * d + f) from nI_add _ _) ?_
        refine l_Rcontents (pc := 23) C E (by omega) dX12_onOf_23 ?_
        refine x_eq (show M 6 (8 * d + f) = vC (sV (σ)) d f from (rr_ct h (by omega) (by omega))) ?_
        refine x_iconst (pc := 24) (v := (-1)) C dX12_onOf_24 rfl ?_
        refine x_icmp_eq (pc := 25) C 51 dX12_onOf_25 (by decide) (fun h25 => ?_) (fun h25 => ?_)
        · refine x_iconst (pc := 51) (v := 0) C dX12_onOf_51 rfl ?_
          refine x_iload_n (pc := 52) C 0 dX12_onOf_52 rfl ?_
          refine x_ishl (pc := 53) C dX12_onOf_53 ?_
          refine x_ior (pc := 54) C dX12_onOf_54 ?_
          refine x_istore_n (pc := 55) (L' := [(2, .int ((mk (vOnG (sV σ) gn f) d) ||| (0 <<< ((nI d) &&& 31)))), (3, .int (nI d)), (0, .ref (t.1 0)), (1, .int (nI f))]) C dX12_onOf_55 (by decide) rfl ?_
          refine x_iinc (pc := 56) (v := nI (d + 1)) (L' := [(3, .int (nI (d + 1))), (2, .int ((mk (vOnG (sV σ) gn f) d) ||| (0 <<< ((nI d) &&& 31)))), (0, .ref (t.1 0)), (1, .int (nI f))]) C 1 dX12_onOf_56 rfl (nI_1 _) (by decide) rfl ?_
          refine x_goto (pc := 59) C 4 dX12_onOf_59 (by decide) ?_
          refine x_sub [0, 1, 2, 3] rfl ?_
          exact ih (d + 1) _ _ (by omega) (mk_z (p := vOnG (sV σ) gn f) (by unfold vOnG vOn vHas; rw [decide_eq_true h25]; rfl)) rfl
        · refine x_aload_n (pc := 28) C 2 dX12_onOf_28 rfl ?_
          refine x_iload_n (pc := 29) C 0 dX12_onOf_29 rfl ?_
          refine x_callV (pc := 30) C E [.int (nI d)] [.int (mk (vOnG (sV σ) gn f) d)] ( c_X12_reads t h (d := d) (by omega)) m_X12_reads q13_20 xo_M rfl (by decide) (Nat.le_of_ble_eq_true rfl) dX12_onOf_30 rfl (k_I ?_)
          refine x_ifb_eq (pc := 33) C 51 dX12_onOf_33 (by decide) (fun h33 => ?_) (fun h33 => ?_)
          · refine x_iconst (pc := 51) (v := 0) C dX12_onOf_51 rfl ?_
            refine x_iload_n (pc := 52) C 0 dX12_onOf_52 rfl ?_
            refine x_ishl (pc := 53) C dX12_onOf_53 ?_
            refine x_ior (pc := 54) C dX12_onOf_54 ?_
            refine x_istore_n (pc := 55) (L' := [(2, .int ((mk (vOnG (sV σ) gn f) d) ||| (0 <<< ((nI d) &&& 31)))), (3, .int (nI d)), (0, .ref (t.1 0)), (1, .int (nI f))]) C dX12_onOf_55 (by decide) rfl ?_
            refine x_iinc (pc := 56) (v := nI (d + 1)) (L' := [(3, .int (nI (d + 1))), (2, .int ((mk (vOnG (sV σ) gn f) d) ||| (0 <<< ((nI d) &&& 31)))), (0, .ref (t.1 0)), (1, .int (nI f))]) C 1 dX12_onOf_56 rfl (nI_1 _) (by decide) rfl ?_
            refine x_goto (pc := 59) C 4 dX12_onOf_59 (by decide) ?_
            refine x_sub [0, 1, 2, 3] rfl ?_
            exact ih (d + 1) _ _ (by omega) (mk_z (p := vOnG (sV σ) gn f) (by unfold vOnG vOn vHas; rw [decide_eq_false h25, h33]; rfl)) rfl
          · refine x_aload_n (pc := 36) C 2 dX12_onOf_36 rfl ?_
            refine g_M_gone (pc := 37) C E q32_8 dX12_onOf_37 ?_
            refine x_eq (show M 0 28 = gn from hg) ?_
            refine x_iload_n (pc := 40) C 0 dX12_onOf_40 rfl ?_
            refine x_ishr (pc := 41) C dX12_onOf_41 ?_
            refine x_iconst (pc := 42) (v := 1) C dX12_onOf_42 rfl ?_
            refine x_iand (pc := 43) C dX12_onOf_43 ?_
            refine x_eq (show (gn >>> ((nI d) &&& 31)) &&& 1 = b2i (bt gn d) from (isInS_iff (by omega))) ?_
            refine x_ifb_ne (pc := 44) C 51 dX12_onOf_44 (by decide) (fun h44 => ?_) (fun h44 => ?_)
            · refine x_iconst (pc := 51) (v := 0) C dX12_onOf_51 rfl ?_
              refine x_iload_n (pc := 52) C 0 dX12_onOf_52 rfl ?_
              refine x_ishl (pc := 53) C dX12_onOf_53 ?_
              refine x_ior (pc := 54) C dX12_onOf_54 ?_
              refine x_istore_n (pc := 55) (L' := [(2, .int ((mk (vOnG (sV σ) gn f) d) ||| (0 <<< ((nI d) &&& 31)))), (3, .int (nI d)), (0, .ref (t.1 0)), (1, .int (nI f))]) C dX12_onOf_55 (by decide) rfl ?_
              refine x_iinc (pc := 56) (v := nI (d + 1)) (L' := [(3, .int (nI (d + 1))), (2, .int ((mk (vOnG (sV σ) gn f) d) ||| (0 <<< ((nI d) &&& 31)))), (0, .ref (t.1 0)), (1, .int (nI f))]) C 1 dX12_onOf_56 rfl (nI_1 _) (by decide) rfl ?_
              refine x_goto (pc := 59) C 4 dX12_onOf_59 (by decide) ?_
              refine x_sub [0, 1, 2, 3] rfl ?_
              exact ih (d + 1) _ _ (by omega) (mk_z (p := vOnG (sV σ) gn f) (by unfold vOnG vOn vHas; rw [decide_eq_false h25, h33, h44]; rfl)) rfl
            · refine x_iconst (pc := 47) (v := 1) C dX12_onOf_47 rfl ?_
              refine x_goto (pc := 48) C 52 dX12_onOf_48 (by decide) ?_
              refine x_iload_n (pc := 52) C 0 dX12_onOf_52 rfl ?_
              refine x_ishl (pc := 53) C dX12_onOf_53 ?_
              refine x_ior (pc := 54) C dX12_onOf_54 ?_
              refine x_istore_n (pc := 55) (L' := [(2, .int ((mk (vOnG (sV σ) gn f) d) ||| (1 <<< ((nI d) &&& 31)))), (3, .int (nI d)), (0, .ref (t.1 0)), (1, .int (nI f))]) C dX12_onOf_55 (by decide) rfl ?_
              refine x_iinc (pc := 56) (v := nI (d + 1)) (L' := [(3, .int (nI (d + 1))), (2, .int ((mk (vOnG (sV σ) gn f) d) ||| (1 <<< ((nI d) &&& 31)))), (0, .ref (t.1 0)), (1, .int (nI f))]) C 1 dX12_onOf_56 rfl (nI_1 _) (by decide) rfl ?_
              refine x_goto (pc := 59) C 4 dX12_onOf_59 (by decide) ?_
              refine x_sub [0, 1, 2, 3] rfl ?_
              exact ih (d + 1) _ _ (by omega) (mk_t (p := vOnG (sV σ) gn f) (by unfold vOnG vOn vHas; rw [decide_eq_false h25, h33, h44]; rfl)) rfl
  refine x_sub [0, 1, 2, 3] rfl ?_
  exact loop4 (vN (sV σ)) 0 _ _ (by omega) rfl rfl

set_option maxRecDepth 100000 in
set_option maxHeartbeats 800000 in
theorem c_X12_bitsOf (t : CT) (M : MM) {a : Nat} (ha : a < 256) : XMet (wR t) yX12_bitsOf cX12_bitsOf 3 (some .int) 1 [.int (nI a)] M (rI (nI (kb8 a)) M) := by
  refine x_met RX12 (by decide) rfl (Nat.le_of_ble_eq_true rfl) (fun κ C X E => ?_)
  refine x_L (L' := [(0, .int (nI a))]) rfl ?_
  have hk8 : kb8 a ≤ 8 := cnt_le _ 8
  refine x_iconst (pc := 0) (v := (nI 0)) C dX12_bitsOf_0 (by decide) ?_
  refine x_istore_n (pc := 1) (L' := [(1, .int (nI 0)), (0, .int (nI a))]) C dX12_bitsOf_1 (by decide) rfl ?_
  refine x_iload_n (pc := 2) C 1 dX12_bitsOf_2 rfl ?_
  refine x_istore_n (pc := 3) (L' := [(2, .int (nI a)), (1, .int (nI 0)), (0, .int (nI a))]) C dX12_bitsOf_3 (by decide) rfl ?_
  have loop4 : ∀ (k i : Nat) (x : Int32) (y : Int32) (c : Nat), i + k = kb8 a → x = nI i → y = nI c → c < 256 → i + kb8 c = kb8 a → XV κ (xP (wR t) M) 4 [(2, .int y), (1, .int x), (0, .int (nI a))] [] := by
    intro k
    induction k with
      | zero =>
        intro i x y c hcnt ex ey hc hkc
        subst ex
        subst ey
        obtain rfl : kb8 a = i := by omega
        refine x_iload_n (pc := 4) C 0 dX12_bitsOf_4 rfl ?_
        refine x_if_eq_t (pc := 5) C 20 dX12_bitsOf_5 (by decide) (by rw [kb8_0 c hc (by omega)]; rfl) ?_
        refine x_iload_n (pc := 20) C 1 dX12_bitsOf_20 rfl ?_
        exact x_iret (pc := 21) C X dX12_bitsOf_21 (rI_i rfl)
      | succ k ih =>
        intro i x y c hcnt ex ey hc hkc
        subst ex
        subst ey
        have hi4 : i < kb8 a := by omega
        have hc0 : c ≠ 0 := fun e => by rw [e] at hkc; have h0 : kb8 0 = 0 := (by decide); omega
        obtain ⟨k1, k2, k3⟩ := kb8_S c hc hc0
        refine x_iload_n (pc := 4) C 0 dX12_bitsOf_4 rfl ?_
        refine x_if_eq_f (pc := 5) C 20 dX12_bitsOf_5 (by decide) (fun e => by have : c = 0 := (nI_eq (a := c) (b := 0) (by omega) (by omega)).mp e; rw [this] at hkc; have h0 : kb8 0 = 0 := (by decide); omega) ?_
        refine x_iinc (pc := 8) (v := nI (i + 1)) (L' := [(1, .int (nI (i + 1))), (2, .int (nI c)), (0, .int (nI a))]) C 1 dX12_bitsOf_8 rfl (nI_1 _) (by decide) rfl ?_
        refine x_iload_n (pc := 11) C 1 dX12_bitsOf_11 rfl ?_
        refine x_iload_n (pc := 12) C 1 dX12_bitsOf_12 rfl ?_
        refine x_iconst (pc := 13) (v := (nI 1)) C dX12_bitsOf_13 (by decide) ?_
        refine x_isub (pc := 14) C dX12_bitsOf_14 ?_
        refine x_iand (pc := 15) C dX12_bitsOf_15 ?_
        refine x_istore_n (pc := 16) (L' := [(2, .int ((nI c) &&& ((nI c) - (nI 1)))), (1, .int (nI (i + 1))), (0, .int (nI a))]) C dX12_bitsOf_16 (by decide) rfl ?_
        refine x_goto (pc := 17) C 4 dX12_bitsOf_17 (by decide) ?_
        refine x_sub [0, 1, 2] rfl ?_
        exact ih (i + 1) _ _ (c &&& (c - 1)) (by omega) rfl k1 k2 (by omega)
  refine x_sub [0, 1, 2] rfl ?_
  exact loop4 (kb8 a) 0 _ _ a (by omega) rfl rfl ha (by omega)

theorem c_bits (t : CT) (M : MM) {p : Nat → Bool} {n : Nat} (hn : n ≤ 8) : XMet (wR t) yX12_bitsOf cX12_bitsOf 3 (some .int) 1 [.int (mk p n)] M (rI (nI (cnt p n)) M) := by
  obtain ⟨a, ha, e⟩ := mk_nI p n hn
  rw [← kb8_mk hn ha e, e]
  exact c_X12_bitsOf t M ha
set_option maxRecDepth 100000 in
set_option maxHeartbeats 800000 in
theorem c_X12_newestOf (t : CT) {σ : SV} {M : MM} (h : RR σ M) (hg : M 0 28 = 0) {f : Nat} (hf : f < 8)  : XMet (wR t) yX12_newestOf cX12_newestOf 5 (some .int) 3 [.ref (t.1 0), .int (nI f)] M (rI (encO (vNh (sV σ) f (vN (sV σ)))) M) := by
  refine x_met RX12 (by decide) rfl (Nat.le_of_ble_eq_true rfl) (fun κ C X E => ?_)
  refine x_L (L' := [(0, .ref (t.1 0)), (1, .int (nI f))]) rfl ?_
  have hn6 := rr_n6 h
  refine x_iconst (pc := 0) (v := (-1)) C dX12_newestOf_0 rfl ?_
  refine x_istore_n (pc := 1) (L' := [(2, .int (-1)), (0, .ref (t.1 0)), (1, .int (nI f))]) C dX12_newestOf_1 (by decide) rfl ?_
  refine x_aload_n (pc := 2) C 1 dX12_newestOf_2 rfl ?_
  refine x_iload_n (pc := 3) C 2 dX12_newestOf_3 rfl ?_
  refine x_callV (pc := 4) C E [.int (nI f)] [] (c_X12_onOf t h (gn := 0) hg (f := f) (by omega)) m_X12_onOf q32_4 xo_M rfl (by first | decide | omega) (Nat.le_of_ble_eq_true rfl) dX12_newestOf_4 rfl (k_I ?_)
  refine x_eq (show _ = mk (vOn (sV (σ)) f) (vN (sV (σ))) from mk_congr (fun d _ => vOnG_0 _ _ d)) ?_
  refine x_istore_n (pc := 7) (L' := [(3, .int (mk (vOn (sV (σ)) f) (vN (sV (σ))))), (2, .int (-1)), (0, .ref (t.1 0)), (1, .int (nI f))]) C dX12_newestOf_7 (by decide) rfl ?_
  refine x_iconst (pc := 8) (v := (nI 0)) C dX12_newestOf_8 (by decide) ?_
  refine x_istore (pc := 9) (L' := [(4, .int (nI 0)), (3, .int (mk (vOn (sV (σ)) f) (vN (sV (σ))))), (2, .int (-1)), (0, .ref (t.1 0)), (1, .int (nI f))]) C dX12_newestOf_9 (by decide) rfl ?_
  have loop11 : ∀ (k d : Nat) (x : Int32) (y : Int32) , d + k = vN (sV σ) → x = encO (vNh (sV σ) f d) → y = nI d → XV κ (xP (wR t) M) 11 [(4, .int y), (3, .int (mk (vOn (sV (σ)) f) (vN (sV (σ))))), (2, .int x), (0, .ref (t.1 0)), (1, .int (nI f))] [] := by
    intro k
    induction k with
      | zero =>
        intro d x y  hcnt ex ey
        subst ex
        subst ey
        obtain rfl : vN (sV σ) = d := by omega
        refine x_iload (pc := 11) C 0 dX12_newestOf_11 rfl ?_
        refine x_aload_n (pc := 13) C 3 dX12_newestOf_13 rfl ?_
        refine g_M_many (pc := 14) C E q13_13 dX12_newestOf_14 ?_
        refine x_eq (show M 0 12 = nI (vN (sV (σ))) from (rr_size h)) ?_
        refine x_icmp_ge_t (pc := 17) C 70 dX12_newestOf_17 (by decide) (nI_le (by omega) (by omega)) ?_
        refine x_iload_n (pc := 70) C 2 dX12_newestOf_70 rfl ?_
        exact x_iret (pc := 71) C X dX12_newestOf_71 (rI_i rfl)
      | succ k ih =>
        intro d x y  hcnt ex ey
        subst ex
        subst ey
        have hi11 : d < vN (sV σ) := by omega
        refine x_iload (pc := 11) C 0 dX12_newestOf_11 rfl ?_
        refine x_aload_n (pc := 13) C 3 dX12_newestOf_13 rfl ?_
        refine g_M_many (pc := 14) C E q13_13 dX12_newestOf_14 ?_
        refine x_eq (show M 0 12 = nI (vN (sV (σ))) from (rr_size h)) ?_
        refine x_icmp_ge_f (pc := 17) C 70 dX12_newestOf_17 (by decide) (nI_ge (by omega) (by omega)) ?_
        refine x_iload_n (pc := 20) C 1 dX12_newestOf_20 rfl ?_
        refine x_iload (pc := 21) C 0 dX12_newestOf_21 rfl ?_
        refine x_ishr (pc := 23) C dX12_newestOf_23 ?_
        refine x_iconst (pc := 24) (v := 1) C dX12_newestOf_24 rfl ?_
        refine x_iand (pc := 25) C dX12_newestOf_25 ?_
        refine x_eq (show ((mk (vOn (sV (σ)) f) (vN (sV (σ)))) >>> ((nI d) &&& 31)) &&& 1 = b2i (vOn (sV σ) f d) from ((isInS_iff (by omega)).trans (by rw [bt_mk _ _ (by omega) d (by omega), decide_eq_true (show d < vN (sV σ) by omega)]; rfl))) ?_
        refine x_iconst (pc := 26) (v := 1) C dX12_newestOf_26 rfl ?_
        refine x_icmp_ne (pc := 27) C 64 dX12_newestOf_27 (by decide) (fun h27 => ?_) (fun h27 => ?_)
        · refine x_iinc (pc := 64) (v := nI (d + 1)) (L' := [(4, .int (nI (d + 1))), (3, .int (mk (vOn (sV (σ)) f) (vN (sV (σ))))), (2, .int (encO (vNh (sV σ) f d))), (0, .ref (t.1 0)), (1, .int (nI f))]) C 0 dX12_newestOf_64 rfl (nI_1 _) (by decide) rfl ?_
          refine x_goto (pc := 67) C 11 dX12_newestOf_67 (by decide) ?_
          refine x_sub [0, 1, 2, 3, 4] rfl ?_
          exact ih (d + 1) _ _ (by omega) (by simp [vNh, show ¬ vOn (sV σ) f d = true from fun e => h27 (b1_eq.mpr e)]) rfl
        · cases ho : vNh (sV σ) f d with
          | none =>
            refine x_L (L' := [(4, .int (nI d)), (3, .int (mk (vOn (sV (σ)) f) (vN (sV (σ))))), (2, .int (-1)), (0, .ref (t.1 0)), (1, .int (nI f))]) rfl ?_
            refine x_iload_n (pc := 30) C 2 dX12_newestOf_30 rfl ?_
            refine x_iconst (pc := 31) (v := (-1)) C dX12_newestOf_31 rfl ?_
            refine x_icmp_eq_t (pc := 32) C 61 dX12_newestOf_32 (by decide) rfl ?_
            refine x_iload (pc := 61) C 0 dX12_newestOf_61 rfl ?_
            refine x_istore_n (pc := 63) (L' := [(2, .int (nI d)), (4, .int (nI d)), (3, .int (mk (vOn (sV (σ)) f) (vN (sV (σ))))), (0, .ref (t.1 0)), (1, .int (nI f))]) C dX12_newestOf_63 (by decide) rfl ?_
            refine x_iinc (pc := 64) (v := nI (d + 1)) (L' := [(4, .int (nI (d + 1))), (2, .int (nI d)), (3, .int (mk (vOn (sV (σ)) f) (vN (sV (σ))))), (0, .ref (t.1 0)), (1, .int (nI f))]) C 1 dX12_newestOf_64 rfl (nI_1 _) (by decide) rfl ?_
            refine x_goto (pc := 67) C 11 dX12_newestOf_67 (by decide) ?_
            refine x_sub [0, 2, 1, 3, 4] rfl ?_
            exact ih (d + 1) _ _ (by omega) (by simp [vNh, b1_eq.mp h27, ho, encO]) rfl
          | some e =>
            have hed := vNh_lt ho
            refine x_L (L' := [(4, .int (nI d)), (3, .int (mk (vOn (sV (σ)) f) (vN (sV (σ))))), (2, .int (nI e)), (0, .ref (t.1 0)), (1, .int (nI f))]) rfl ?_
            refine x_iload_n (pc := 30) C 2 dX12_newestOf_30 rfl ?_
            refine x_iconst (pc := 31) (v := (-1)) C dX12_newestOf_31 rfl ?_
            refine x_icmp_eq_f (pc := 32) C 61 dX12_newestOf_32 (by decide) (fun h => absurd (nI_toInt (n := e) (by omega)) (by rw [h]; simp)) ?_
            refine x_aload_n (pc := 35) C 3 dX12_newestOf_35 rfl ?_
            refine g_M_stamps (pc := 36) C E q11_18 dX12_newestOf_36 ?_
            refine x_bipush (pc := 39) (v := (nI 8)) C dX12_newestOf_39 (by decide) ?_
            refine x_iload (pc := 41) C 0 dX12_newestOf_41 rfl ?_
            refine x_imul (pc := 43) C dX12_newestOf_43 ?_
            refine x_eq (show (nI 8) * (nI d) = nI (8 * d) from pk_mul _ _) ?_
            refine x_iload_n (pc := 44) C 4 dX12_newestOf_44 rfl ?_
            refine x_iadd (pc := 45) C dX12_newestOf_45 ?_
            refine x_eq (show (nI (8 * d)) + (nI f) = nI (8 * d + f) from nI_add _ _) ?_
            refine l_Rstamps (pc := 46) C E (by omega) dX12_newestOf_46 ?_
            refine x_eq (show M 7 (8 * d + f) = vT (sV (σ)) d f from (rr_st h (by omega) (by omega))) ?_
            refine x_aload_n (pc := 47) C 3 dX12_newestOf_47 rfl ?_
            refine g_M_stamps (pc := 48) C E q11_18 dX12_newestOf_48 ?_
            refine x_bipush (pc := 51) (v := (nI 8)) C dX12_newestOf_51 (by decide) ?_
            refine x_iload_n (pc := 53) C 2 dX12_newestOf_53 rfl ?_
            refine x_imul (pc := 54) C dX12_newestOf_54 ?_
            refine x_eq (show (nI 8) * (nI e) = nI (8 * e) from pk_mul _ _) ?_
            refine x_iload_n (pc := 55) C 4 dX12_newestOf_55 rfl ?_
            refine x_iadd (pc := 56) C dX12_newestOf_56 ?_
            refine x_eq (show (nI (8 * e)) + (nI f) = nI (8 * e + f) from nI_add _ _) ?_
            refine l_Rstamps (pc := 57) C E (by omega) dX12_newestOf_57 ?_
            refine x_eq (show M 7 (8 * e + f) = vT (sV (σ)) e f from (rr_st h (by omega) (by omega))) ?_
            refine x_icmp_le (pc := 58) C 64 dX12_newestOf_58 (by decide) (fun h58 => ?_) (fun h58 => ?_)
            · refine x_iinc (pc := 64) (v := nI (d + 1)) (L' := [(4, .int (nI (d + 1))), (3, .int (mk (vOn (sV (σ)) f) (vN (sV (σ))))), (2, .int (nI e)), (0, .ref (t.1 0)), (1, .int (nI f))]) C 0 dX12_newestOf_64 rfl (nI_1 _) (by decide) rfl ?_
              refine x_goto (pc := 67) C 11 dX12_newestOf_67 (by decide) ?_
              refine x_sub [0, 1, 2, 3, 4] rfl ?_
              exact ih (d + 1) _ _ (by omega) (by simp [vNh, b1_eq.mp h27, ho, encO, Int32.not_lt.mpr h58]) rfl
            · refine x_iload (pc := 61) C 0 dX12_newestOf_61 rfl ?_
              refine x_istore_n (pc := 63) (L' := [(2, .int (nI d)), (4, .int (nI d)), (3, .int (mk (vOn (sV (σ)) f) (vN (sV (σ))))), (0, .ref (t.1 0)), (1, .int (nI f))]) C dX12_newestOf_63 (by decide) rfl ?_
              refine x_iinc (pc := 64) (v := nI (d + 1)) (L' := [(4, .int (nI (d + 1))), (2, .int (nI d)), (3, .int (mk (vOn (sV (σ)) f) (vN (sV (σ))))), (0, .ref (t.1 0)), (1, .int (nI f))]) C 1 dX12_newestOf_64 rfl (nI_1 _) (by decide) rfl ?_
              refine x_goto (pc := 67) C 11 dX12_newestOf_67 (by decide) ?_
              refine x_sub [0, 2, 1, 3, 4] rfl ?_
              exact ih (d + 1) _ _ (by omega) (by simp [vNh, b1_eq.mp h27, ho, encO, Int32.not_le.mp h58]) rfl
  refine x_sub [0, 1, 2, 3, 4] rfl ?_
  exact loop11 (vN (sV σ)) 0 _ _ (by omega) rfl rfl

