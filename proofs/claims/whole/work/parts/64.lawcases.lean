/-! THE LAW'S CASES: both are called with the same words of the script, answer alike, and go on from the same state -/
def xSc (κ : XK) (b N : Nat) (xs : Nat → Int32) : Prop := match κ with
  | (_, _, _, _, s, _, _, _, _, _, _, A, _, _, _) => va_X b N xs s s.heap ∧ b < s.heap.size ∧ ¬ A b
section LAWROWS
variable {κ : XK} {own : String} {cc : ByteArray} {n d : Nat} {I : Heap → Prop} {pc : Nat} {L : List (Nat × Value)} {st : List Value}
theorem x_sld (C : XC κ own cc n d) {b N : Nat} {xs : Nat → Int32} (hX : xSc κ b N xs) {i : Nat} (hi : i < N) (hN : N ≤ 3072) (hd : decode cc pc = .ok (.iaload, 1)) (k : XV κ I (pc + 1) L (.int (xs i) :: st)) : XV κ I pc L (.int (nI i) :: .ref b :: st) := by
  obtain ⟨p, l, e, R, s, m, args, below, meth, c, Q, A, nL, cells, slots⟩ := κ
  intro H locs ls hI hS hl
  have h := k H locs ls hI hS hl
  rw [show xs i = xs (nI i).toNatClampNeg by rw [nI_clamp (by omega)]] at h
  exact va_sld C.1 C.2.1 hX.1 hX.2.1 hX.2.2 hS (vp_in_nI hi (by omega)) hd h
theorem x_slen (C : XC κ own cc n d) {b N : Nat} {xs : Nat → Int32} (hX : xSc κ b N xs) (hd : decode cc pc = .ok (.arraylength, 1)) (k : XV κ I (pc + 1) L (.int (nI N) :: st)) : XV κ I pc L (.ref b :: st) := by
  obtain ⟨p, l, e, R, s, m, args, below, meth, c, Q, A, nL, cells, slots⟩ := κ
  intro H locs ls hI hS hl
  exact va_slen C.1 C.2.1 hX.1 hX.2.1 hX.2.2 hS hd (k H locs ls hI hS hl)
end LAWROWS
/-- both worlds tell one state -/
def LIn (t t' : CT) (σ : SV) (H : Heap) : Prop := ∃ M M' : MM, xP (wC t) M H ∧ xP (wR t') M' H ∧ RC σ M ∧ RR σ M' ∧ M' 0 28 = 0 ∧ cOk σ
theorem x_open {κ : XK} {t t' : CT} {σ : SV} {pc : Nat} {L : List (Nat × Value)} {st : List Value} (k : ∀ M M' : MM, RC σ M → RR σ M' → M' 0 28 = 0 → cOk σ → XV κ (fun H => xP (wC t) M H ∧ xP (wR t') M' H) pc L st) : XV κ (LIn t t' σ) pc L st := by
  obtain ⟨p, l, e, R, s, m, args, below, meth, c, Q, A, nL, cells, slots⟩ := κ
  intro H locs ls hI hS hl
  obtain ⟨M, M', h1, h2, h3, h4, h5, h6⟩ := hI
  exact k M M' h3 h4 h5 h6 H locs ls ⟨h1, h2⟩ hS hl
theorem lg_cmp_rf (x : Int64) : lg_cmp x x = 0 := by
  unfold lg_cmp
  rw [if_neg (show ¬ x > x from fun h => by rw [gt_iff_lt, Int64.lt_iff_toInt_lt] at h; omega)]
  first | exact if_pos rfl | rfl | exact if_neg (fun h => by rw [Int64.lt_iff_toInt_lt] at h; omega)
set_option maxRecDepth 100000 in
set_option maxHeartbeats 4000000 in
theorem lw_case0 {κ : XK} {t t' : CT} {d b N : Nat} {xs : Nat → Int32} {i : Nat} {σ : SV} (C : XC κ RL cL_law 4 d) (hd : 90 ≤ d) (E : XE κ (wC t)) (E' : XE κ (wR t')) (hap : ∀ q, xA (wC t) q → ¬ xA (wR t') q) (hX : xSc κ b N xs) (hi : i + 6 ≤ N) (hN : N ≤ 3072) (K : ∀ σ' : SV, XV κ (LIn t t' σ') 1193 [(0, .ref b), (1, .ref (t.1 0)), (2, .ref (t'.1 0)), (3, .int (nI i))] []) : XV κ (LIn t t' σ) 176 [(0, .ref b), (1, .ref (t.1 0)), (2, .ref (t'.1 0)), (3, .int (nI i))] [] := by
  refine x_open (fun M M' h1 h2 hg hc => ?_)
  refine x_aload_n (pc := 176) C 1 dL_law_176 rfl ?_
  refine x_aload_n (pc := 177) C 0 dL_law_177 rfl ?_
  refine x_iload_n (pc := 178) C 3 dL_law_178 rfl ?_
  refine x_iconst (pc := 179) (v := nI 1) C dL_law_179 (by decide) ?_
  refine x_iadd (pc := 180) C dL_law_180 ?_
  refine x_eq (show nI i + nI 1 = nI (i + 1) from nI_add _ _) ?_
  refine x_sld (pc := 181) C hX (i := i + 1) (by omega) hN dL_law_181 ?_
  refine x_aload_n (pc := 182) C 0 dL_law_182 rfl ?_
  refine x_iload_n (pc := 183) C 3 dL_law_183 rfl ?_
  refine x_iconst (pc := 184) (v := nI 2) C dL_law_184 (by decide) ?_
  refine x_iadd (pc := 185) C dL_law_185 ?_
  refine x_eq (show nI i + nI 2 = nI (i + 2) from nI_add _ _) ?_
  refine x_sld (pc := 186) C hX (i := i + 2) (by omega) hN dL_law_186 ?_
  refine x_aload_n (pc := 187) C 0 dL_law_187 rfl ?_
  refine x_iload_n (pc := 188) C 3 dL_law_188 rfl ?_
  refine x_iconst (pc := 189) (v := nI 3) C dL_law_189 (by decide) ?_
  refine x_iadd (pc := 190) C dL_law_190 ?_
  refine x_eq (show nI i + nI 3 = nI (i + 3) from nI_add _ _) ?_
  refine x_sld (pc := 191) C hX (i := i + 3) (by omega) hN dL_law_191 ?_
  refine x_callVJ (pc := 192) C E (xOut_P hap) [.int (xs (i + 1)), .int (xs (i + 2)), .int (xs (i + 3))] [] (c_X11_set t h1 _ _ _) m_X11_set q12_10 xo_main rfl (by omega) (Nat.le_of_ble_eq_true rfl) dL_law_192 rfl (fun r M1 hc1 => ?_)
  obtain ⟨rfl, hR1⟩ := hc1
  show XV κ _ 195 _ [.int (o_set σ (xs (i + 1)) (xs (i + 2)) (xs (i + 3))).2]
  refine x_I (I' := fun H => xP (wR t') M' H ∧ xP (wC t) M1 H) (fun H h => ⟨h.2, h.1⟩) ?_
  refine x_aload_n (pc := 195) C 2 dL_law_195 rfl ?_
  refine x_aload_n (pc := 196) C 0 dL_law_196 rfl ?_
  refine x_iload_n (pc := 197) C 3 dL_law_197 rfl ?_
  refine x_iconst (pc := 198) (v := nI 1) C dL_law_198 (by decide) ?_
  refine x_iadd (pc := 199) C dL_law_199 ?_
  refine x_eq (show nI i + nI 1 = nI (i + 1) from nI_add _ _) ?_
  refine x_sld (pc := 200) C hX (i := i + 1) (by omega) hN dL_law_200 ?_
  refine x_aload_n (pc := 201) C 0 dL_law_201 rfl ?_
  refine x_iload_n (pc := 202) C 3 dL_law_202 rfl ?_
  refine x_iconst (pc := 203) (v := nI 2) C dL_law_203 (by decide) ?_
  refine x_iadd (pc := 204) C dL_law_204 ?_
  refine x_eq (show nI i + nI 2 = nI (i + 2) from nI_add _ _) ?_
  refine x_sld (pc := 205) C hX (i := i + 2) (by omega) hN dL_law_205 ?_
  refine x_aload_n (pc := 206) C 0 dL_law_206 rfl ?_
  refine x_iload_n (pc := 207) C 3 dL_law_207 rfl ?_
  refine x_iconst (pc := 208) (v := nI 3) C dL_law_208 (by decide) ?_
  refine x_iadd (pc := 209) C dL_law_209 ?_
  refine x_eq (show nI i + nI 3 = nI (i + 3) from nI_add _ _) ?_
  refine x_sld (pc := 210) C hX (i := i + 3) (by omega) hN dL_law_210 ?_
  refine x_callVJ (pc := 211) C E' (xOut_P (fun q h1 h2 => hap q h2 h1)) [.int (xs (i + 1)), .int (xs (i + 2)), .int (xs (i + 3))] [.int (o_set σ (xs (i + 1)) (xs (i + 2)) (xs (i + 3))).2] (c_X12_set t' h2 hg _ _ _) m_X12_set q12_23 xo_M rfl (by omega) (Nat.le_of_ble_eq_true rfl) dL_law_211 rfl (fun r M2 hc2 => ?_)
  obtain ⟨rfl, hR2, hg2⟩ := hc2
  show XV κ _ 214 _ [.int (o_set σ (xs (i + 1)) (xs (i + 2)) (xs (i + 3))).2, .int (o_set σ (xs (i + 1)) (xs (i + 2)) (xs (i + 3))).2]
  refine x_icmp_eq_t (pc := 214) C 1193 dL_law_214 (by decide) rfl ?_
  exact x_I (fun H h => ⟨M1, M2, h.2, h.1, hR1, hR2, hg2, (cok_set hc _ _ _)⟩) (K _)
set_option maxRecDepth 100000 in
set_option maxHeartbeats 4000000 in
theorem lw_case1 {κ : XK} {t t' : CT} {d b N : Nat} {xs : Nat → Int32} {i : Nat} {σ : SV} (C : XC κ RL cL_law 4 d) (hd : 90 ≤ d) (E : XE κ (wC t)) (E' : XE κ (wR t')) (hap : ∀ q, xA (wC t) q → ¬ xA (wR t') q) (hX : xSc κ b N xs) (hi : i + 6 ≤ N) (hN : N ≤ 3072) (K : ∀ σ' : SV, XV κ (LIn t t' σ') 1193 [(0, .ref b), (1, .ref (t.1 0)), (2, .ref (t'.1 0)), (3, .int (nI i))] []) : XV κ (LIn t t' σ) 219 [(0, .ref b), (1, .ref (t.1 0)), (2, .ref (t'.1 0)), (3, .int (nI i))] [] := by
  refine x_open (fun M M' h1 h2 hg hc => ?_)
  refine x_aload_n (pc := 219) C 1 dL_law_219 rfl ?_
  refine x_aload_n (pc := 220) C 0 dL_law_220 rfl ?_
  refine x_iload_n (pc := 221) C 3 dL_law_221 rfl ?_
  refine x_iconst (pc := 222) (v := nI 1) C dL_law_222 (by decide) ?_
  refine x_iadd (pc := 223) C dL_law_223 ?_
  refine x_eq (show nI i + nI 1 = nI (i + 1) from nI_add _ _) ?_
  refine x_sld (pc := 224) C hX (i := i + 1) (by omega) hN dL_law_224 ?_
  refine x_aload_n (pc := 225) C 0 dL_law_225 rfl ?_
  refine x_iload_n (pc := 226) C 3 dL_law_226 rfl ?_
  refine x_iconst (pc := 227) (v := nI 2) C dL_law_227 (by decide) ?_
  refine x_iadd (pc := 228) C dL_law_228 ?_
  refine x_eq (show nI i + nI 2 = nI (i + 2) from nI_add _ _) ?_
  refine x_sld (pc := 229) C hX (i := i + 2) (by omega) hN dL_law_229 ?_
  refine x_callVJ (pc := 230) C E (xOut_P hap) [.int (xs (i + 1)), .int (xs (i + 2))] [] (c_X11_disk t h1 _ _) m_X11_disk q18_18 xo_main rfl (by omega) (Nat.le_of_ble_eq_true rfl) dL_law_230 rfl (fun r M1 hc1 => ?_)
  obtain ⟨rfl, hR1⟩ := hc1
  show XV κ _ 233 _ [.int (o_disk σ (xs (i + 1)) (xs (i + 2))).2]
  refine x_I (I' := fun H => xP (wR t') M' H ∧ xP (wC t) M1 H) (fun H h => ⟨h.2, h.1⟩) ?_
  refine x_aload_n (pc := 233) C 2 dL_law_233 rfl ?_
  refine x_aload_n (pc := 234) C 0 dL_law_234 rfl ?_
  refine x_iload_n (pc := 235) C 3 dL_law_235 rfl ?_
  refine x_iconst (pc := 236) (v := nI 1) C dL_law_236 (by decide) ?_
  refine x_iadd (pc := 237) C dL_law_237 ?_
  refine x_eq (show nI i + nI 1 = nI (i + 1) from nI_add _ _) ?_
  refine x_sld (pc := 238) C hX (i := i + 1) (by omega) hN dL_law_238 ?_
  refine x_aload_n (pc := 239) C 0 dL_law_239 rfl ?_
  refine x_iload_n (pc := 240) C 3 dL_law_240 rfl ?_
  refine x_iconst (pc := 241) (v := nI 2) C dL_law_241 (by decide) ?_
  refine x_iadd (pc := 242) C dL_law_242 ?_
  refine x_eq (show nI i + nI 2 = nI (i + 2) from nI_add _ _) ?_
  refine x_sld (pc := 243) C hX (i := i + 2) (by omega) hN dL_law_243 ?_
  refine x_callVJ (pc := 244) C E' (xOut_P (fun q h1 h2 => hap q h2 h1)) [.int (xs (i + 1)), .int (xs (i + 2))] [.int (o_disk σ (xs (i + 1)) (xs (i + 2))).2] (c_X12_disk t' h2 hg _ _) m_X12_disk q19_16 xo_M rfl (by omega) (Nat.le_of_ble_eq_true rfl) dL_law_244 rfl (fun r M2 hc2 => ?_)
  obtain ⟨rfl, hR2, hg2⟩ := hc2
  show XV κ _ 247 _ [.int (o_disk σ (xs (i + 1)) (xs (i + 2))).2, .int (o_disk σ (xs (i + 1)) (xs (i + 2))).2]
  refine x_icmp_eq_t (pc := 247) C 1193 dL_law_247 (by decide) rfl ?_
  exact x_I (fun H h => ⟨M1, M2, h.2, h.1, hR1, hR2, hg2, (cok_disk hc _ _)⟩) (K _)
set_option maxRecDepth 100000 in
set_option maxHeartbeats 4000000 in
theorem lw_case2 {κ : XK} {t t' : CT} {d b N : Nat} {xs : Nat → Int32} {i : Nat} {σ : SV} (C : XC κ RL cL_law 4 d) (hd : 90 ≤ d) (E : XE κ (wC t)) (E' : XE κ (wR t')) (hap : ∀ q, xA (wC t) q → ¬ xA (wR t') q) (hX : xSc κ b N xs) (hi : i + 6 ≤ N) (hN : N ≤ 3072) (K : ∀ σ' : SV, XV κ (LIn t t' σ') 1193 [(0, .ref b), (1, .ref (t.1 0)), (2, .ref (t'.1 0)), (3, .int (nI i))] []) : XV κ (LIn t t' σ) 252 [(0, .ref b), (1, .ref (t.1 0)), (2, .ref (t'.1 0)), (3, .int (nI i))] [] := by
  refine x_open (fun M M' h1 h2 hg hc => ?_)
  refine x_aload_n (pc := 252) C 1 dL_law_252 rfl ?_
  refine x_aload_n (pc := 253) C 0 dL_law_253 rfl ?_
  refine x_iload_n (pc := 254) C 3 dL_law_254 rfl ?_
  refine x_iconst (pc := 255) (v := nI 1) C dL_law_255 (by decide) ?_
  refine x_iadd (pc := 256) C dL_law_256 ?_
  refine x_eq (show nI i + nI 1 = nI (i + 1) from nI_add _ _) ?_
  refine x_sld (pc := 257) C hX (i := i + 1) (by omega) hN dL_law_257 ?_
  refine x_aload_n (pc := 258) C 0 dL_law_258 rfl ?_
  refine x_iload_n (pc := 259) C 3 dL_law_259 rfl ?_
  refine x_iconst (pc := 260) (v := nI 2) C dL_law_260 (by decide) ?_
  refine x_iadd (pc := 261) C dL_law_261 ?_
  refine x_eq (show nI i + nI 2 = nI (i + 2) from nI_add _ _) ?_
  refine x_sld (pc := 262) C hX (i := i + 2) (by omega) hN dL_law_262 ?_
  refine x_callVJ (pc := 263) C E (xOut_P hap) [.int (xs (i + 1)), .int (xs (i + 2))] [] (c_X11_told t h1 _ _) m_X11_told q20_1 xo_main rfl (by omega) (Nat.le_of_ble_eq_true rfl) dL_law_263 rfl (fun r M1 hc1 => ?_)
  obtain ⟨rfl, hR1⟩ := hc1
  show XV κ _ 266 _ [.int (a_told σ (xs (i + 1)) (xs (i + 2)))]
  refine x_I (I' := fun H => xP (wR t') M' H ∧ xP (wC t) M1 H) (fun H h => ⟨h.2, h.1⟩) ?_
  refine x_aload_n (pc := 266) C 2 dL_law_266 rfl ?_
  refine x_aload_n (pc := 267) C 0 dL_law_267 rfl ?_
  refine x_iload_n (pc := 268) C 3 dL_law_268 rfl ?_
  refine x_iconst (pc := 269) (v := nI 1) C dL_law_269 (by decide) ?_
  refine x_iadd (pc := 270) C dL_law_270 ?_
  refine x_eq (show nI i + nI 1 = nI (i + 1) from nI_add _ _) ?_
  refine x_sld (pc := 271) C hX (i := i + 1) (by omega) hN dL_law_271 ?_
  refine x_aload_n (pc := 272) C 0 dL_law_272 rfl ?_
  refine x_iload_n (pc := 273) C 3 dL_law_273 rfl ?_
  refine x_iconst (pc := 274) (v := nI 2) C dL_law_274 (by decide) ?_
  refine x_iadd (pc := 275) C dL_law_275 ?_
  refine x_eq (show nI i + nI 2 = nI (i + 2) from nI_add _ _) ?_
  refine x_sld (pc := 276) C hX (i := i + 2) (by omega) hN dL_law_276 ?_
  refine x_callVJ (pc := 277) C E' (xOut_P (fun q h1 h2 => hap q h2 h1)) [.int (xs (i + 1)), .int (xs (i + 2))] [.int (a_told σ (xs (i + 1)) (xs (i + 2)))] (c_X12_told t' h2 hg _ _) m_X12_told q25_8 xo_M rfl (by omega) (Nat.le_of_ble_eq_true rfl) dL_law_277 rfl (fun r M2 hc2 => ?_)
  obtain ⟨rfl, hS2⟩ := hc2
  have hR2 := rr_Sc h2 hS2
  have hg2 : M2 0 28 = 0 := (hS2 _ _ (by omega)).trans hg
  show XV κ _ 280 _ [.int (a_told σ (xs (i + 1)) (xs (i + 2))), .int (a_told σ (xs (i + 1)) (xs (i + 2)))]
  refine x_icmp_eq_t (pc := 280) C 1193 dL_law_280 (by decide) rfl ?_
  exact x_I (fun H h => ⟨M1, M2, h.2, h.1, hR1, hR2, hg2, hc⟩) (K _)
set_option maxRecDepth 100000 in
set_option maxHeartbeats 4000000 in
theorem lw_case3 {κ : XK} {t t' : CT} {d b N : Nat} {xs : Nat → Int32} {i : Nat} {σ : SV} (C : XC κ RL cL_law 4 d) (hd : 90 ≤ d) (E : XE κ (wC t)) (E' : XE κ (wR t')) (hap : ∀ q, xA (wC t) q → ¬ xA (wR t') q) (hX : xSc κ b N xs) (hi : i + 6 ≤ N) (hN : N ≤ 3072) (K : ∀ σ' : SV, XV κ (LIn t t' σ') 1193 [(0, .ref b), (1, .ref (t.1 0)), (2, .ref (t'.1 0)), (3, .int (nI i))] []) : XV κ (LIn t t' σ) 285 [(0, .ref b), (1, .ref (t.1 0)), (2, .ref (t'.1 0)), (3, .int (nI i))] [] := by
  refine x_open (fun M M' h1 h2 hg hc => ?_)
  refine x_aload_n (pc := 285) C 1 dL_law_285 rfl ?_
  refine x_aload_n (pc := 286) C 0 dL_law_286 rfl ?_
  refine x_iload_n (pc := 287) C 3 dL_law_287 rfl ?_
  refine x_iconst (pc := 288) (v := nI 1) C dL_law_288 (by decide) ?_
  refine x_iadd (pc := 289) C dL_law_289 ?_
  refine x_eq (show nI i + nI 1 = nI (i + 1) from nI_add _ _) ?_
  refine x_sld (pc := 290) C hX (i := i + 1) (by omega) hN dL_law_290 ?_
  refine x_aload_n (pc := 291) C 0 dL_law_291 rfl ?_
  refine x_iload_n (pc := 292) C 3 dL_law_292 rfl ?_
  refine x_iconst (pc := 293) (v := nI 2) C dL_law_293 (by decide) ?_
  refine x_iadd (pc := 294) C dL_law_294 ?_
  refine x_eq (show nI i + nI 2 = nI (i + 2) from nI_add _ _) ?_
  refine x_sld (pc := 295) C hX (i := i + 2) (by omega) hN dL_law_295 ?_
  refine x_aload_n (pc := 296) C 0 dL_law_296 rfl ?_
  refine x_iload_n (pc := 297) C 3 dL_law_297 rfl ?_
  refine x_iconst (pc := 298) (v := nI 3) C dL_law_298 (by decide) ?_
  refine x_iadd (pc := 299) C dL_law_299 ?_
  refine x_eq (show nI i + nI 3 = nI (i + 3) from nI_add _ _) ?_
  refine x_sld (pc := 300) C hX (i := i + 3) (by omega) hN dL_law_300 ?_
  refine x_callVJ (pc := 301) C E (xOut_P hap) [.int (xs (i + 1)), .int (xs (i + 2)), .int (xs (i + 3))] [] (c_X11_file t h1 _ _ _) m_X11_file q25_9 xo_main rfl (by omega) (Nat.le_of_ble_eq_true rfl) dL_law_301 rfl (fun r M1 hc1 => ?_)
  obtain ⟨rfl, hR1⟩ := hc1
  show XV κ _ 304 _ [.int (a_file σ (xs (i + 1)) (xs (i + 2)) (xs (i + 3)))]
  refine x_I (I' := fun H => xP (wR t') M' H ∧ xP (wC t) M1 H) (fun H h => ⟨h.2, h.1⟩) ?_
  refine x_aload_n (pc := 304) C 2 dL_law_304 rfl ?_
  refine x_aload_n (pc := 305) C 0 dL_law_305 rfl ?_
  refine x_iload_n (pc := 306) C 3 dL_law_306 rfl ?_
  refine x_iconst (pc := 307) (v := nI 1) C dL_law_307 (by decide) ?_
  refine x_iadd (pc := 308) C dL_law_308 ?_
  refine x_eq (show nI i + nI 1 = nI (i + 1) from nI_add _ _) ?_
  refine x_sld (pc := 309) C hX (i := i + 1) (by omega) hN dL_law_309 ?_
  refine x_aload_n (pc := 310) C 0 dL_law_310 rfl ?_
  refine x_iload_n (pc := 311) C 3 dL_law_311 rfl ?_
  refine x_iconst (pc := 312) (v := nI 2) C dL_law_312 (by decide) ?_
  refine x_iadd (pc := 313) C dL_law_313 ?_
  refine x_eq (show nI i + nI 2 = nI (i + 2) from nI_add _ _) ?_
  refine x_sld (pc := 314) C hX (i := i + 2) (by omega) hN dL_law_314 ?_
  refine x_aload_n (pc := 315) C 0 dL_law_315 rfl ?_
  refine x_iload_n (pc := 316) C 3 dL_law_316 rfl ?_
  refine x_iconst (pc := 317) (v := nI 3) C dL_law_317 (by decide) ?_
  refine x_iadd (pc := 318) C dL_law_318 ?_
  refine x_eq (show nI i + nI 3 = nI (i + 3) from nI_add _ _) ?_
  refine x_sld (pc := 319) C hX (i := i + 3) (by omega) hN dL_law_319 ?_
  refine x_callVJ (pc := 320) C E' (xOut_P (fun q h1 h2 => hap q h2 h1)) [.int (xs (i + 1)), .int (xs (i + 2)), .int (xs (i + 3))] [.int (a_file σ (xs (i + 1)) (xs (i + 2)) (xs (i + 3)))] (c_X12_file t' h2 hg _ _ _) m_X12_file q25_18 xo_M rfl (by omega) (Nat.le_of_ble_eq_true rfl) dL_law_320 rfl (fun r M2 hc2 => ?_)
  obtain ⟨rfl, hR2, hg2⟩ := hc2
  show XV κ _ 323 _ [.int (a_file σ (xs (i + 1)) (xs (i + 2)) (xs (i + 3))), .int (a_file σ (xs (i + 1)) (xs (i + 2)) (xs (i + 3)))]
  refine x_icmp_eq_t (pc := 323) C 1193 dL_law_323 (by decide) rfl ?_
  exact x_I (fun H h => ⟨M1, M2, h.2, h.1, hR1, hR2, hg2, hc⟩) (K _)
set_option maxRecDepth 100000 in
set_option maxHeartbeats 4000000 in
theorem lw_case4 {κ : XK} {t t' : CT} {d b N : Nat} {xs : Nat → Int32} {i : Nat} {σ : SV} (C : XC κ RL cL_law 4 d) (hd : 90 ≤ d) (E : XE κ (wC t)) (E' : XE κ (wR t')) (hap : ∀ q, xA (wC t) q → ¬ xA (wR t') q) (hX : xSc κ b N xs) (hi : i + 6 ≤ N) (hN : N ≤ 3072) (K : ∀ σ' : SV, XV κ (LIn t t' σ') 1193 [(0, .ref b), (1, .ref (t.1 0)), (2, .ref (t'.1 0)), (3, .int (nI i))] []) : XV κ (LIn t t' σ) 328 [(0, .ref b), (1, .ref (t.1 0)), (2, .ref (t'.1 0)), (3, .int (nI i))] [] := by
  refine x_open (fun M M' h1 h2 hg hc => ?_)
  refine x_aload_n (pc := 328) C 1 dL_law_328 rfl ?_
  refine x_aload_n (pc := 329) C 0 dL_law_329 rfl ?_
  refine x_iload_n (pc := 330) C 3 dL_law_330 rfl ?_
  refine x_iconst (pc := 331) (v := nI 1) C dL_law_331 (by decide) ?_
  refine x_iadd (pc := 332) C dL_law_332 ?_
  refine x_eq (show nI i + nI 1 = nI (i + 1) from nI_add _ _) ?_
  refine x_sld (pc := 333) C hX (i := i + 1) (by omega) hN dL_law_333 ?_
  refine x_callVJ (pc := 334) C E (xOut_P hap) [.int (xs (i + 1))] [] (c_X11_feed t h1 _) m_X11_feed q26_2 xo_main rfl (by omega) (Nat.le_of_ble_eq_true rfl) dL_law_334 rfl (fun r M1 hc1 => ?_)
  obtain ⟨rfl, hR1⟩ := hc1
  show XV κ _ 337 _ [.int (o_feed σ (xs (i + 1))).2]
  refine x_I (I' := fun H => xP (wR t') M' H ∧ xP (wC t) M1 H) (fun H h => ⟨h.2, h.1⟩) ?_
  refine x_aload_n (pc := 337) C 2 dL_law_337 rfl ?_
  refine x_aload_n (pc := 338) C 0 dL_law_338 rfl ?_
  refine x_iload_n (pc := 339) C 3 dL_law_339 rfl ?_
  refine x_iconst (pc := 340) (v := nI 1) C dL_law_340 (by decide) ?_
  refine x_iadd (pc := 341) C dL_law_341 ?_
  refine x_eq (show nI i + nI 1 = nI (i + 1) from nI_add _ _) ?_
  refine x_sld (pc := 342) C hX (i := i + 1) (by omega) hN dL_law_342 ?_
  refine x_callVJ (pc := 343) C E' (xOut_P (fun q h1 h2 => hap q h2 h1)) [.int (xs (i + 1))] [.int (o_feed σ (xs (i + 1))).2] (c_X12_feed t' h2 hg _) m_X12_feed q26_7 xo_M rfl (by omega) (Nat.le_of_ble_eq_true rfl) dL_law_343 rfl (fun r M2 hc2 => ?_)
  obtain ⟨rfl, hR2, hg2⟩ := hc2
  show XV κ _ 346 _ [.int (o_feed σ (xs (i + 1))).2, .int (o_feed σ (xs (i + 1))).2]
  refine x_icmp_eq_t (pc := 346) C 1193 dL_law_346 (by decide) rfl ?_
  exact x_I (fun H h => ⟨M1, M2, h.2, h.1, hR1, hR2, hg2, (cok_feed hc _)⟩) (K _)
set_option maxRecDepth 100000 in
set_option maxHeartbeats 4000000 in
theorem lw_case5 {κ : XK} {t t' : CT} {d b N : Nat} {xs : Nat → Int32} {i : Nat} {σ : SV} (C : XC κ RL cL_law 4 d) (hd : 90 ≤ d) (E : XE κ (wC t)) (E' : XE κ (wR t')) (hap : ∀ q, xA (wC t) q → ¬ xA (wR t') q) (hX : xSc κ b N xs) (hi : i + 6 ≤ N) (hN : N ≤ 3072) {v : Value} {q a : Nat} (hT : ∀ U H, t.2.2.2 U H → txW v q a U H) (hv : v = .null ∨ ∃ z, v = .ref z) (K : ∀ σ' : SV, XV κ (LIn t t' σ') 1193 [(0, .ref b), (1, .ref (t.1 0)), (2, .ref (t'.1 0)), (3, .int (nI i))] []) : XV κ (LIn t t' σ) 351 [(0, .ref b), (1, .ref (t.1 0)), (2, .ref (t'.1 0)), (3, .int (nI i))] [] := by
  refine x_open (fun M M' h1 h2 hg hc => ?_)
  refine x_aload_n (pc := 351) C 1 dL_law_351 rfl ?_
  refine x_callVJ (pc := 352) C E (xOut_P hap) [] [] (c_X11_text t h1 hT hv) m_X11_text q26_13 xo_main rfl (by omega) (Nat.le_of_ble_eq_true rfl) dL_law_352 rfl (fun r M1 hc1 => ?_)
  obtain ⟨rfl, hR1⟩ := hc1
  show XV κ _ 355 _ [.int (o_text σ).2]
  refine x_I (I' := fun H => xP (wR t') M' H ∧ xP (wC t) M1 H) (fun H h => ⟨h.2, h.1⟩) ?_
  refine x_aload_n (pc := 355) C 2 dL_law_355 rfl ?_
  refine x_callVJ (pc := 356) C E' (xOut_P (fun q h1 h2 => hap q h2 h1)) [] [.int (o_text σ).2] (c_X12_text t' h2 hg) m_X12_text q26_17 xo_M rfl (by omega) (Nat.le_of_ble_eq_true rfl) dL_law_356 rfl (fun r M2 hc2 => ?_)
  obtain ⟨rfl, hR2, hg2⟩ := hc2
  show XV κ _ 359 _ [.int (o_text σ).2, .int (o_text σ).2]
  refine x_icmp_eq_t (pc := 359) C 1193 dL_law_359 (by decide) rfl ?_
  exact x_I (fun H h => ⟨M1, M2, h.2, h.1, hR1, hR2, hg2, (cok_text hc)⟩) (K _)
set_option maxRecDepth 100000 in
set_option maxHeartbeats 4000000 in
theorem lw_case6 {κ : XK} {t t' : CT} {d b N : Nat} {xs : Nat → Int32} {i : Nat} {σ : SV} (C : XC κ RL cL_law 4 d) (hd : 90 ≤ d) (E : XE κ (wC t)) (E' : XE κ (wR t')) (hap : ∀ q, xA (wC t) q → ¬ xA (wR t') q) (hX : xSc κ b N xs) (hi : i + 6 ≤ N) (hN : N ≤ 3072) (K : ∀ σ' : SV, XV κ (LIn t t' σ') 1193 [(0, .ref b), (1, .ref (t.1 0)), (2, .ref (t'.1 0)), (3, .int (nI i))] []) : XV κ (LIn t t' σ) 364 [(0, .ref b), (1, .ref (t.1 0)), (2, .ref (t'.1 0)), (3, .int (nI i))] [] := by
  refine x_open (fun M M' h1 h2 hg hc => ?_)
  refine x_aload_n (pc := 364) C 1 dL_law_364 rfl ?_
  refine x_aload_n (pc := 365) C 0 dL_law_365 rfl ?_
  refine x_iload_n (pc := 366) C 3 dL_law_366 rfl ?_
  refine x_iconst (pc := 367) (v := nI 1) C dL_law_367 (by decide) ?_
  refine x_iadd (pc := 368) C dL_law_368 ?_
  refine x_eq (show nI i + nI 1 = nI (i + 1) from nI_add _ _) ?_
  refine x_sld (pc := 369) C hX (i := i + 1) (by omega) hN dL_law_369 ?_
  refine x_callVJ (pc := 370) C E (xOut_P hap) [.int (xs (i + 1))] [] (c_X11_force t h1 _) m_X11_force q26_21 xo_main rfl (by omega) (Nat.le_of_ble_eq_true rfl) dL_law_370 rfl (fun r M1 hc1 => ?_)
  obtain ⟨rfl, hR1⟩ := hc1
  show XV κ _ 373 _ [.int (o_force σ (xs (i + 1))).2]
  refine x_I (I' := fun H => xP (wR t') M' H ∧ xP (wC t) M1 H) (fun H h => ⟨h.2, h.1⟩) ?_
  refine x_aload_n (pc := 373) C 2 dL_law_373 rfl ?_
  refine x_aload_n (pc := 374) C 0 dL_law_374 rfl ?_
  refine x_iload_n (pc := 375) C 3 dL_law_375 rfl ?_
  refine x_iconst (pc := 376) (v := nI 1) C dL_law_376 (by decide) ?_
  refine x_iadd (pc := 377) C dL_law_377 ?_
  refine x_eq (show nI i + nI 1 = nI (i + 1) from nI_add _ _) ?_
  refine x_sld (pc := 378) C hX (i := i + 1) (by omega) hN dL_law_378 ?_
  refine x_callVJ (pc := 379) C E' (xOut_P (fun q h1 h2 => hap q h2 h1)) [.int (xs (i + 1))] [.int (o_force σ (xs (i + 1))).2] (c_X12_force t' h2 hg _) m_X12_force q27_1 xo_M rfl (by omega) (Nat.le_of_ble_eq_true rfl) dL_law_379 rfl (fun r M2 hc2 => ?_)
  obtain ⟨rfl, hR2, hg2⟩ := hc2
  show XV κ _ 382 _ [.int (o_force σ (xs (i + 1))).2, .int (o_force σ (xs (i + 1))).2]
  refine x_icmp_eq_t (pc := 382) C 1193 dL_law_382 (by decide) rfl ?_
  exact x_I (fun H h => ⟨M1, M2, h.2, h.1, hR1, hR2, hg2, (cok_force hc _)⟩) (K _)
set_option maxRecDepth 100000 in
set_option maxHeartbeats 4000000 in
theorem lw_case7 {κ : XK} {t t' : CT} {d b N : Nat} {xs : Nat → Int32} {i : Nat} {σ : SV} (C : XC κ RL cL_law 4 d) (hd : 90 ≤ d) (E : XE κ (wC t)) (E' : XE κ (wR t')) (hap : ∀ q, xA (wC t) q → ¬ xA (wR t') q) (hX : xSc κ b N xs) (hi : i + 6 ≤ N) (hN : N ≤ 3072) (K : ∀ σ' : SV, XV κ (LIn t t' σ') 1193 [(0, .ref b), (1, .ref (t.1 0)), (2, .ref (t'.1 0)), (3, .int (nI i))] []) : XV κ (LIn t t' σ) 387 [(0, .ref b), (1, .ref (t.1 0)), (2, .ref (t'.1 0)), (3, .int (nI i))] [] := by
  refine x_open (fun M M' h1 h2 hg hc => ?_)
  refine x_aload_n (pc := 387) C 1 dL_law_387 rfl ?_
  refine x_aload_n (pc := 388) C 0 dL_law_388 rfl ?_
  refine x_iload_n (pc := 389) C 3 dL_law_389 rfl ?_
  refine x_iconst (pc := 390) (v := nI 1) C dL_law_390 (by decide) ?_
  refine x_iadd (pc := 391) C dL_law_391 ?_
  refine x_eq (show nI i + nI 1 = nI (i + 1) from nI_add _ _) ?_
  refine x_sld (pc := 392) C hX (i := i + 1) (by omega) hN dL_law_392 ?_
  refine x_aload_n (pc := 393) C 0 dL_law_393 rfl ?_
  refine x_iload_n (pc := 394) C 3 dL_law_394 rfl ?_
  refine x_iconst (pc := 395) (v := nI 2) C dL_law_395 (by decide) ?_
  refine x_iadd (pc := 396) C dL_law_396 ?_
  refine x_eq (show nI i + nI 2 = nI (i + 2) from nI_add _ _) ?_
  refine x_sld (pc := 397) C hX (i := i + 2) (by omega) hN dL_law_397 ?_
  refine x_aload_n (pc := 398) C 0 dL_law_398 rfl ?_
  refine x_iload_n (pc := 399) C 3 dL_law_399 rfl ?_
  refine x_iconst (pc := 400) (v := nI 3) C dL_law_400 (by decide) ?_
  refine x_iadd (pc := 401) C dL_law_401 ?_
  refine x_eq (show nI i + nI 3 = nI (i + 3) from nI_add _ _) ?_
  refine x_sld (pc := 402) C hX (i := i + 3) (by omega) hN dL_law_402 ?_
  refine x_callVJ (pc := 403) C E (xOut_P hap) [.int (xs (i + 1)), .int (xs (i + 2)), .int (xs (i + 3))] [] (c_X11_write t h1 _ _ _) m_X11_write q27_5 xo_main rfl (by omega) (Nat.le_of_ble_eq_true rfl) dL_law_403 rfl (fun r M1 hc1 => ?_)
  obtain ⟨rfl, hR1⟩ := hc1
  show XV κ _ 406 _ [.int (o_write σ (xs (i + 1)) (xs (i + 2)) (xs (i + 3))).2]
  refine x_I (I' := fun H => xP (wR t') M' H ∧ xP (wC t) M1 H) (fun H h => ⟨h.2, h.1⟩) ?_
  refine x_aload_n (pc := 406) C 2 dL_law_406 rfl ?_
  refine x_aload_n (pc := 407) C 0 dL_law_407 rfl ?_
  refine x_iload_n (pc := 408) C 3 dL_law_408 rfl ?_
  refine x_iconst (pc := 409) (v := nI 1) C dL_law_409 (by decide) ?_
  refine x_iadd (pc := 410) C dL_law_410 ?_
  refine x_eq (show nI i + nI 1 = nI (i + 1) from nI_add _ _) ?_
  refine x_sld (pc := 411) C hX (i := i + 1) (by omega) hN dL_law_411 ?_
  refine x_aload_n (pc := 412) C 0 dL_law_412 rfl ?_
  refine x_iload_n (pc := 413) C 3 dL_law_413 rfl ?_
  refine x_iconst (pc := 414) (v := nI 2) C dL_law_414 (by decide) ?_
  refine x_iadd (pc := 415) C dL_law_415 ?_
  refine x_eq (show nI i + nI 2 = nI (i + 2) from nI_add _ _) ?_
  refine x_sld (pc := 416) C hX (i := i + 2) (by omega) hN dL_law_416 ?_
  refine x_aload_n (pc := 417) C 0 dL_law_417 rfl ?_
  refine x_iload_n (pc := 418) C 3 dL_law_418 rfl ?_
  refine x_iconst (pc := 419) (v := nI 3) C dL_law_419 (by decide) ?_
  refine x_iadd (pc := 420) C dL_law_420 ?_
  refine x_eq (show nI i + nI 3 = nI (i + 3) from nI_add _ _) ?_
  refine x_sld (pc := 421) C hX (i := i + 3) (by omega) hN dL_law_421 ?_
  refine x_callVJ (pc := 422) C E' (xOut_P (fun q h1 h2 => hap q h2 h1)) [.int (xs (i + 1)), .int (xs (i + 2)), .int (xs (i + 3))] [.int (o_write σ (xs (i + 1)) (xs (i + 2)) (xs (i + 3))).2] (c_X12_write t' h2 hg _ _ _) m_X12_write q28_15 xo_M rfl (by omega) (Nat.le_of_ble_eq_true rfl) dL_law_422 rfl (fun r M2 hc2 => ?_)
  obtain ⟨rfl, hR2, hg2⟩ := hc2
  show XV κ _ 425 _ [.int (o_write σ (xs (i + 1)) (xs (i + 2)) (xs (i + 3))).2, .int (o_write σ (xs (i + 1)) (xs (i + 2)) (xs (i + 3))).2]
  refine x_icmp_eq_t (pc := 425) C 1193 dL_law_425 (by decide) rfl ?_
  exact x_I (fun H h => ⟨M1, M2, h.2, h.1, hR1, hR2, hg2, (cok_write hc _ _ _)⟩) (K _)
set_option maxRecDepth 100000 in
set_option maxHeartbeats 4000000 in
theorem lw_case8 {κ : XK} {t t' : CT} {d b N : Nat} {xs : Nat → Int32} {i : Nat} {σ : SV} (C : XC κ RL cL_law 4 d) (hd : 90 ≤ d) (E : XE κ (wC t)) (E' : XE κ (wR t')) (hap : ∀ q, xA (wC t) q → ¬ xA (wR t') q) (hX : xSc κ b N xs) (hi : i + 6 ≤ N) (hN : N ≤ 3072) (K : ∀ σ' : SV, XV κ (LIn t t' σ') 1193 [(0, .ref b), (1, .ref (t.1 0)), (2, .ref (t'.1 0)), (3, .int (nI i))] []) : XV κ (LIn t t' σ) 430 [(0, .ref b), (1, .ref (t.1 0)), (2, .ref (t'.1 0)), (3, .int (nI i))] [] := by
  refine x_open (fun M M' h1 h2 hg hc => ?_)
  refine x_aload_n (pc := 430) C 1 dL_law_430 rfl ?_
  refine x_aload_n (pc := 431) C 0 dL_law_431 rfl ?_
  refine x_iload_n (pc := 432) C 3 dL_law_432 rfl ?_
  refine x_iconst (pc := 433) (v := nI 1) C dL_law_433 (by decide) ?_
  refine x_iadd (pc := 434) C dL_law_434 ?_
  refine x_eq (show nI i + nI 1 = nI (i + 1) from nI_add _ _) ?_
  refine x_sld (pc := 435) C hX (i := i + 1) (by omega) hN dL_law_435 ?_
  refine x_aload_n (pc := 436) C 0 dL_law_436 rfl ?_
  refine x_iload_n (pc := 437) C 3 dL_law_437 rfl ?_
  refine x_iconst (pc := 438) (v := nI 2) C dL_law_438 (by decide) ?_
  refine x_iadd (pc := 439) C dL_law_439 ?_
  refine x_eq (show nI i + nI 2 = nI (i + 2) from nI_add _ _) ?_
  refine x_sld (pc := 440) C hX (i := i + 2) (by omega) hN dL_law_440 ?_
  refine x_callVJ (pc := 441) C E (xOut_P hap) [.int (xs (i + 1)), .int (xs (i + 2))] [] (c_X11_lose t h1 _ _) m_X11_lose q29_3 xo_main rfl (by omega) (Nat.le_of_ble_eq_true rfl) dL_law_441 rfl (fun r M1 hc1 => ?_)
  obtain ⟨rfl, hR1⟩ := hc1
  show XV κ _ 444 _ [.int (o_lose σ (xs (i + 1)) (xs (i + 2))).2]
  refine x_I (I' := fun H => xP (wR t') M' H ∧ xP (wC t) M1 H) (fun H h => ⟨h.2, h.1⟩) ?_
  refine x_aload_n (pc := 444) C 2 dL_law_444 rfl ?_
  refine x_aload_n (pc := 445) C 0 dL_law_445 rfl ?_
  refine x_iload_n (pc := 446) C 3 dL_law_446 rfl ?_
  refine x_iconst (pc := 447) (v := nI 1) C dL_law_447 (by decide) ?_
  refine x_iadd (pc := 448) C dL_law_448 ?_
  refine x_eq (show nI i + nI 1 = nI (i + 1) from nI_add _ _) ?_
  refine x_sld (pc := 449) C hX (i := i + 1) (by omega) hN dL_law_449 ?_
  refine x_aload_n (pc := 450) C 0 dL_law_450 rfl ?_
  refine x_iload_n (pc := 451) C 3 dL_law_451 rfl ?_
  refine x_iconst (pc := 452) (v := nI 2) C dL_law_452 (by decide) ?_
  refine x_iadd (pc := 453) C dL_law_453 ?_
  refine x_eq (show nI i + nI 2 = nI (i + 2) from nI_add _ _) ?_
  refine x_sld (pc := 454) C hX (i := i + 2) (by omega) hN dL_law_454 ?_
  refine x_callVJ (pc := 455) C E' (xOut_P (fun q h1 h2 => hap q h2 h1)) [.int (xs (i + 1)), .int (xs (i + 2))] [.int (o_lose σ (xs (i + 1)) (xs (i + 2))).2] (c_X12_lose t' h2 hg _ _) m_X12_lose q29_8 xo_M rfl (by omega) (Nat.le_of_ble_eq_true rfl) dL_law_455 rfl (fun r M2 hc2 => ?_)
  obtain ⟨rfl, hR2, hg2⟩ := hc2
  show XV κ _ 458 _ [.int (o_lose σ (xs (i + 1)) (xs (i + 2))).2, .int (o_lose σ (xs (i + 1)) (xs (i + 2))).2]
  refine x_icmp_eq_t (pc := 458) C 1193 dL_law_458 (by decide) rfl ?_
  exact x_I (fun H h => ⟨M1, M2, h.2, h.1, hR1, hR2, hg2, (cok_lose hc _ _)⟩) (K _)
set_option maxRecDepth 100000 in
set_option maxHeartbeats 4000000 in
theorem lw_case9 {κ : XK} {t t' : CT} {d b N : Nat} {xs : Nat → Int32} {i : Nat} {σ : SV} (C : XC κ RL cL_law 4 d) (hd : 90 ≤ d) (E : XE κ (wC t)) (E' : XE κ (wR t')) (hap : ∀ q, xA (wC t) q → ¬ xA (wR t') q) (hX : xSc κ b N xs) (hi : i + 6 ≤ N) (hN : N ≤ 3072) (K : ∀ σ' : SV, XV κ (LIn t t' σ') 1193 [(0, .ref b), (1, .ref (t.1 0)), (2, .ref (t'.1 0)), (3, .int (nI i))] []) : XV κ (LIn t t' σ) 463 [(0, .ref b), (1, .ref (t.1 0)), (2, .ref (t'.1 0)), (3, .int (nI i))] [] := by
  refine x_open (fun M M' h1 h2 hg hc => ?_)
  refine x_aload_n (pc := 463) C 1 dL_law_463 rfl ?_
  refine x_aload_n (pc := 464) C 0 dL_law_464 rfl ?_
  refine x_iload_n (pc := 465) C 3 dL_law_465 rfl ?_
  refine x_iconst (pc := 466) (v := nI 1) C dL_law_466 (by decide) ?_
  refine x_iadd (pc := 467) C dL_law_467 ?_
  refine x_eq (show nI i + nI 1 = nI (i + 1) from nI_add _ _) ?_
  refine x_sld (pc := 468) C hX (i := i + 1) (by omega) hN dL_law_468 ?_
  refine x_aload_n (pc := 469) C 0 dL_law_469 rfl ?_
  refine x_iload_n (pc := 470) C 3 dL_law_470 rfl ?_
  refine x_iconst (pc := 471) (v := nI 2) C dL_law_471 (by decide) ?_
  refine x_iadd (pc := 472) C dL_law_472 ?_
  refine x_eq (show nI i + nI 2 = nI (i + 2) from nI_add _ _) ?_
  refine x_sld (pc := 473) C hX (i := i + 2) (by omega) hN dL_law_473 ?_
  refine x_callVJ (pc := 474) C E (xOut_P hap) [.int (xs (i + 1)), .int (xs (i + 2))] [] (c_X11_copies t h1 _ _) m_X11_copies q29_12 xo_main rfl (by omega) (Nat.le_of_ble_eq_true rfl) dL_law_474 rfl (fun r M1 hc1 => ?_)
  obtain ⟨rfl, hR1⟩ := hc1
  show XV κ _ 477 _ [.int (o_copies σ (xs (i + 1)) (xs (i + 2))).2]
  refine x_I (I' := fun H => xP (wR t') M' H ∧ xP (wC t) M1 H) (fun H h => ⟨h.2, h.1⟩) ?_
  refine x_aload_n (pc := 477) C 2 dL_law_477 rfl ?_
  refine x_aload_n (pc := 478) C 0 dL_law_478 rfl ?_
  refine x_iload_n (pc := 479) C 3 dL_law_479 rfl ?_
  refine x_iconst (pc := 480) (v := nI 1) C dL_law_480 (by decide) ?_
  refine x_iadd (pc := 481) C dL_law_481 ?_
  refine x_eq (show nI i + nI 1 = nI (i + 1) from nI_add _ _) ?_
  refine x_sld (pc := 482) C hX (i := i + 1) (by omega) hN dL_law_482 ?_
  refine x_aload_n (pc := 483) C 0 dL_law_483 rfl ?_
  refine x_iload_n (pc := 484) C 3 dL_law_484 rfl ?_
  refine x_iconst (pc := 485) (v := nI 2) C dL_law_485 (by decide) ?_
  refine x_iadd (pc := 486) C dL_law_486 ?_
  refine x_eq (show nI i + nI 2 = nI (i + 2) from nI_add _ _) ?_
  refine x_sld (pc := 487) C hX (i := i + 2) (by omega) hN dL_law_487 ?_
  refine x_callVJ (pc := 488) C E' (xOut_P (fun q h1 h2 => hap q h2 h1)) [.int (xs (i + 1)), .int (xs (i + 2))] [.int (o_copies σ (xs (i + 1)) (xs (i + 2))).2] (c_X12_copies t' h2 hg _ _) m_X12_copies q30_16 xo_M rfl (by omega) (Nat.le_of_ble_eq_true rfl) dL_law_488 rfl (fun r M2 hc2 => ?_)
  obtain ⟨rfl, hR2, hg2⟩ := hc2
  show XV κ _ 491 _ [.int (o_copies σ (xs (i + 1)) (xs (i + 2))).2, .int (o_copies σ (xs (i + 1)) (xs (i + 2))).2]
  refine x_icmp_eq_t (pc := 491) C 1193 dL_law_491 (by decide) rfl ?_
  exact x_I (fun H h => ⟨M1, M2, h.2, h.1, hR1, hR2, hg2, (cok_copies hc (rr_n6 h2) _ _)⟩) (K _)
set_option maxRecDepth 100000 in
set_option maxHeartbeats 4000000 in
theorem lw_case10 {κ : XK} {t t' : CT} {d b N : Nat} {xs : Nat → Int32} {i : Nat} {σ : SV} (C : XC κ RL cL_law 4 d) (hd : 90 ≤ d) (E : XE κ (wC t)) (E' : XE κ (wR t')) (hap : ∀ q, xA (wC t) q → ¬ xA (wR t') q) (hX : xSc κ b N xs) (hi : i + 6 ≤ N) (hN : N ≤ 3072) (K : ∀ σ' : SV, XV κ (LIn t t' σ') 1193 [(0, .ref b), (1, .ref (t.1 0)), (2, .ref (t'.1 0)), (3, .int (nI i))] []) : XV κ (LIn t t' σ) 496 [(0, .ref b), (1, .ref (t.1 0)), (2, .ref (t'.1 0)), (3, .int (nI i))] [] := by
  refine x_open (fun M M' h1 h2 hg hc => ?_)
  refine x_aload_n (pc := 496) C 1 dL_law_496 rfl ?_
  refine x_aload_n (pc := 497) C 0 dL_law_497 rfl ?_
  refine x_iload_n (pc := 498) C 3 dL_law_498 rfl ?_
  refine x_iconst (pc := 499) (v := nI 1) C dL_law_499 (by decide) ?_
  refine x_iadd (pc := 500) C dL_law_500 ?_
  refine x_eq (show nI i + nI 1 = nI (i + 1) from nI_add _ _) ?_
  refine x_sld (pc := 501) C hX (i := i + 1) (by omega) hN dL_law_501 ?_
  refine x_callVJ (pc := 502) C E (xOut_P hap) [.int (xs (i + 1))] [] (c_X11_on t h1 _) m_X11_on q31_8 xo_main rfl (by omega) (Nat.le_of_ble_eq_true rfl) dL_law_502 rfl (fun r M1 hc1 => ?_)
  obtain ⟨rfl, hR1⟩ := hc1
  show XV κ _ 505 _ [.int (a_on σ (xs (i + 1)))]
  refine x_I (I' := fun H => xP (wR t') M' H ∧ xP (wC t) M1 H) (fun H h => ⟨h.2, h.1⟩) ?_
  refine x_aload_n (pc := 505) C 2 dL_law_505 rfl ?_
  refine x_aload_n (pc := 506) C 0 dL_law_506 rfl ?_
  refine x_iload_n (pc := 507) C 3 dL_law_507 rfl ?_
  refine x_iconst (pc := 508) (v := nI 1) C dL_law_508 (by decide) ?_
  refine x_iadd (pc := 509) C dL_law_509 ?_
  refine x_eq (show nI i + nI 1 = nI (i + 1) from nI_add _ _) ?_
  refine x_sld (pc := 510) C hX (i := i + 1) (by omega) hN dL_law_510 ?_
  refine x_callVJ (pc := 511) C E' (xOut_P (fun q h1 h2 => hap q h2 h1)) [.int (xs (i + 1))] [.int (a_on σ (xs (i + 1)))] (c_X12_on t' h2 hg _) m_X12_on q32_0 xo_M rfl (by omega) (Nat.le_of_ble_eq_true rfl) dL_law_511 rfl (fun r M2 hc2 => ?_)
  obtain ⟨rfl, hR2, hg2⟩ := hc2
  show XV κ _ 514 _ [.int (a_on σ (xs (i + 1))), .int (a_on σ (xs (i + 1)))]
  refine x_icmp_eq_t (pc := 514) C 1193 dL_law_514 (by decide) rfl ?_
  exact x_I (fun H h => ⟨M1, M2, h.2, h.1, hR1, hR2, hg2, hc⟩) (K _)
set_option maxRecDepth 100000 in
set_option maxHeartbeats 4000000 in
theorem lw_case11 {κ : XK} {t t' : CT} {d b N : Nat} {xs : Nat → Int32} {i : Nat} {σ : SV} (C : XC κ RL cL_law 4 d) (hd : 90 ≤ d) (E : XE κ (wC t)) (E' : XE κ (wR t')) (hap : ∀ q, xA (wC t) q → ¬ xA (wR t') q) (hX : xSc κ b N xs) (hi : i + 6 ≤ N) (hN : N ≤ 3072) (K : ∀ σ' : SV, XV κ (LIn t t' σ') 1193 [(0, .ref b), (1, .ref (t.1 0)), (2, .ref (t'.1 0)), (3, .int (nI i))] []) : XV κ (LIn t t' σ) 519 [(0, .ref b), (1, .ref (t.1 0)), (2, .ref (t'.1 0)), (3, .int (nI i))] [] := by
  refine x_open (fun M M' h1 h2 hg hc => ?_)
  refine x_aload_n (pc := 519) C 1 dL_law_519 rfl ?_
  refine x_aload_n (pc := 520) C 0 dL_law_520 rfl ?_
  refine x_iload_n (pc := 521) C 3 dL_law_521 rfl ?_
  refine x_iconst (pc := 522) (v := nI 1) C dL_law_522 (by decide) ?_
  refine x_iadd (pc := 523) C dL_law_523 ?_
  refine x_eq (show nI i + nI 1 = nI (i + 1) from nI_add _ _) ?_
  refine x_sld (pc := 524) C hX (i := i + 1) (by omega) hN dL_law_524 ?_
  refine x_aload_n (pc := 525) C 0 dL_law_525 rfl ?_
  refine x_iload_n (pc := 526) C 3 dL_law_526 rfl ?_
  refine x_iconst (pc := 527) (v := nI 2) C dL_law_527 (by decide) ?_
  refine x_iadd (pc := 528) C dL_law_528 ?_
  refine x_eq (show nI i + nI 2 = nI (i + 2) from nI_add _ _) ?_
  refine x_sld (pc := 529) C hX (i := i + 2) (by omega) hN dL_law_529 ?_
  refine x_callVJ (pc := 530) C E (xOut_P hap) [.int (xs (i + 1)), .int (xs (i + 2))] [] (c_X11_newest t h1 _ _) m_X11_newest q32_9 xo_main rfl (by omega) (Nat.le_of_ble_eq_true rfl) dL_law_530 rfl (fun r M1 hc1 => ?_)
  obtain ⟨rfl, hR1⟩ := hc1
  show XV κ _ 533 _ [.int (a_newest σ (xs (i + 1)) (xs (i + 2)))]
  refine x_I (I' := fun H => xP (wR t') M' H ∧ xP (wC t) M1 H) (fun H h => ⟨h.2, h.1⟩) ?_
  refine x_aload_n (pc := 533) C 2 dL_law_533 rfl ?_
  refine x_aload_n (pc := 534) C 0 dL_law_534 rfl ?_
  refine x_iload_n (pc := 535) C 3 dL_law_535 rfl ?_
  refine x_iconst (pc := 536) (v := nI 1) C dL_law_536 (by decide) ?_
  refine x_iadd (pc := 537) C dL_law_537 ?_
  refine x_eq (show nI i + nI 1 = nI (i + 1) from nI_add _ _) ?_
  refine x_sld (pc := 538) C hX (i := i + 1) (by omega) hN dL_law_538 ?_
  refine x_aload_n (pc := 539) C 0 dL_law_539 rfl ?_
  refine x_iload_n (pc := 540) C 3 dL_law_540 rfl ?_
  refine x_iconst (pc := 541) (v := nI 2) C dL_law_541 (by decide) ?_
  refine x_iadd (pc := 542) C dL_law_542 ?_
  refine x_eq (show nI i + nI 2 = nI (i + 2) from nI_add _ _) ?_
  refine x_sld (pc := 543) C hX (i := i + 2) (by omega) hN dL_law_543 ?_
  refine x_callVJ (pc := 544) C E' (xOut_P (fun q h1 h2 => hap q h2 h1)) [.int (xs (i + 1)), .int (xs (i + 2))] [.int (a_newest σ (xs (i + 1)) (xs (i + 2)))] (c_X12_newest t' h2 hg _ _) m_X12_newest q32_18 xo_M rfl (by omega) (Nat.le_of_ble_eq_true rfl) dL_law_544 rfl (fun r M2 hc2 => ?_)
  obtain ⟨rfl, hR2, hg2⟩ := hc2
  show XV κ _ 547 _ [.int (a_newest σ (xs (i + 1)) (xs (i + 2))), .int (a_newest σ (xs (i + 1)) (xs (i + 2)))]
  refine x_icmp_eq_t (pc := 547) C 1193 dL_law_547 (by decide) rfl ?_
  exact x_I (fun H h => ⟨M1, M2, h.2, h.1, hR1, hR2, hg2, hc⟩) (K _)
set_option maxRecDepth 100000 in
set_option maxHeartbeats 4000000 in
theorem lw_case12 {κ : XK} {t t' : CT} {d b N : Nat} {xs : Nat → Int32} {i : Nat} {σ : SV} (C : XC κ RL cL_law 4 d) (hd : 90 ≤ d) (E : XE κ (wC t)) (E' : XE κ (wR t')) (hap : ∀ q, xA (wC t) q → ¬ xA (wR t') q) (hX : xSc κ b N xs) (hi : i + 6 ≤ N) (hN : N ≤ 3072) (K : ∀ σ' : SV, XV κ (LIn t t' σ') 1193 [(0, .ref b), (1, .ref (t.1 0)), (2, .ref (t'.1 0)), (3, .int (nI i))] []) : XV κ (LIn t t' σ) 552 [(0, .ref b), (1, .ref (t.1 0)), (2, .ref (t'.1 0)), (3, .int (nI i))] [] := by
  refine x_open (fun M M' h1 h2 hg hc => ?_)
  refine x_aload_n (pc := 552) C 1 dL_law_552 rfl ?_
  refine x_aload_n (pc := 553) C 0 dL_law_553 rfl ?_
  refine x_iload_n (pc := 554) C 3 dL_law_554 rfl ?_
  refine x_iconst (pc := 555) (v := nI 1) C dL_law_555 (by decide) ?_
  refine x_iadd (pc := 556) C dL_law_556 ?_
  refine x_eq (show nI i + nI 1 = nI (i + 1) from nI_add _ _) ?_
  refine x_sld (pc := 557) C hX (i := i + 1) (by omega) hN dL_law_557 ?_
  refine x_callVJ (pc := 558) C E (xOut_P hap) [.int (xs (i + 1))] [] (c_X11_all t h1 _) m_X11_all q33_2 xo_main rfl (by omega) (Nat.le_of_ble_eq_true rfl) dL_law_558 rfl (fun r M1 hc1 => ?_)
  obtain ⟨rfl, hR1⟩ := hc1
  show XV κ _ 561 _ [.int (a_all σ (xs (i + 1)))]
  refine x_I (I' := fun H => xP (wR t') M' H ∧ xP (wC t) M1 H) (fun H h => ⟨h.2, h.1⟩) ?_
  refine x_aload_n (pc := 561) C 2 dL_law_561 rfl ?_
  refine x_aload_n (pc := 562) C 0 dL_law_562 rfl ?_
  refine x_iload_n (pc := 563) C 3 dL_law_563 rfl ?_
  refine x_iconst (pc := 564) (v := nI 1) C dL_law_564 (by decide) ?_
  refine x_iadd (pc := 565) C dL_law_565 ?_
  refine x_eq (show nI i + nI 1 = nI (i + 1) from nI_add _ _) ?_
  refine x_sld (pc := 566) C hX (i := i + 1) (by omega) hN dL_law_566 ?_
  refine x_callVJ (pc := 567) C E' (xOut_P (fun q h1 h2 => hap q h2 h1)) [.int (xs (i + 1))] [.int (a_all σ (xs (i + 1)))] (c_X12_all t' h2 hg _) m_X12_all q34_14 xo_M rfl (by omega) (Nat.le_of_ble_eq_true rfl) dL_law_567 rfl (fun r M2 hc2 => ?_)
  obtain ⟨rfl, hR2, hg2⟩ := hc2
  show XV κ _ 570 _ [.int (a_all σ (xs (i + 1))), .int (a_all σ (xs (i + 1)))]
  refine x_icmp_eq_t (pc := 570) C 1193 dL_law_570 (by decide) rfl ?_
  exact x_I (fun H h => ⟨M1, M2, h.2, h.1, hR1, hR2, hg2, hc⟩) (K _)
set_option maxRecDepth 100000 in
set_option maxHeartbeats 4000000 in
theorem lw_case13 {κ : XK} {t t' : CT} {d b N : Nat} {xs : Nat → Int32} {i : Nat} {σ : SV} (C : XC κ RL cL_law 4 d) (hd : 90 ≤ d) (E : XE κ (wC t)) (E' : XE κ (wR t')) (hap : ∀ q, xA (wC t) q → ¬ xA (wR t') q) (hX : xSc κ b N xs) (hi : i + 6 ≤ N) (hN : N ≤ 3072) (K : ∀ σ' : SV, XV κ (LIn t t' σ') 1193 [(0, .ref b), (1, .ref (t.1 0)), (2, .ref (t'.1 0)), (3, .int (nI i))] []) : XV κ (LIn t t' σ) 575 [(0, .ref b), (1, .ref (t.1 0)), (2, .ref (t'.1 0)), (3, .int (nI i))] [] := by
  refine x_open (fun M M' h1 h2 hg hc => ?_)
  refine x_aload_n (pc := 575) C 1 dL_law_575 rfl ?_
  refine x_aload_n (pc := 576) C 0 dL_law_576 rfl ?_
  refine x_iload_n (pc := 577) C 3 dL_law_577 rfl ?_
  refine x_iconst (pc := 578) (v := nI 1) C dL_law_578 (by decide) ?_
  refine x_iadd (pc := 579) C dL_law_579 ?_
  refine x_eq (show nI i + nI 1 = nI (i + 1) from nI_add _ _) ?_
  refine x_sld (pc := 580) C hX (i := i + 1) (by omega) hN dL_law_580 ?_
  refine x_aload_n (pc := 581) C 0 dL_law_581 rfl ?_
  refine x_iload_n (pc := 582) C 3 dL_law_582 rfl ?_
  refine x_iconst (pc := 583) (v := nI 2) C dL_law_583 (by decide) ?_
  refine x_iadd (pc := 584) C dL_law_584 ?_
  refine x_eq (show nI i + nI 2 = nI (i + 2) from nI_add _ _) ?_
  refine x_sld (pc := 585) C hX (i := i + 2) (by omega) hN dL_law_585 ?_
  refine x_callVJ (pc := 586) C E (xOut_P hap) [.int (xs (i + 1)), .int (xs (i + 2))] [] (c_X11_best t h1 _ _) m_X11_best q35_17 xo_main rfl (by omega) (Nat.le_of_ble_eq_true rfl) dL_law_586 rfl (fun r M1 hc1 => ?_)
  obtain ⟨rfl, hR1⟩ := hc1
  show XV κ _ 589 _ [.int (a_best σ (xs (i + 1)) (xs (i + 2)))]
  refine x_I (I' := fun H => xP (wR t') M' H ∧ xP (wC t) M1 H) (fun H h => ⟨h.2, h.1⟩) ?_
  refine x_aload_n (pc := 589) C 2 dL_law_589 rfl ?_
  refine x_aload_n (pc := 590) C 0 dL_law_590 rfl ?_
  refine x_iload_n (pc := 591) C 3 dL_law_591 rfl ?_
  refine x_iconst (pc := 592) (v := nI 1) C dL_law_592 (by decide) ?_
  refine x_iadd (pc := 593) C dL_law_593 ?_
  refine x_eq (show nI i + nI 1 = nI (i + 1) from nI_add _ _) ?_
  refine x_sld (pc := 594) C hX (i := i + 1) (by omega) hN dL_law_594 ?_
  refine x_aload_n (pc := 595) C 0 dL_law_595 rfl ?_
  refine x_iload_n (pc := 596) C 3 dL_law_596 rfl ?_
  refine x_iconst (pc := 597) (v := nI 2) C dL_law_597 (by decide) ?_
  refine x_iadd (pc := 598) C dL_law_598 ?_
  refine x_eq (show nI i + nI 2 = nI (i + 2) from nI_add _ _) ?_
  refine x_sld (pc := 599) C hX (i := i + 2) (by omega) hN dL_law_599 ?_
  refine x_callVJ (pc := 600) C E' (xOut_P (fun q h1 h2 => hap q h2 h1)) [.int (xs (i + 1)), .int (xs (i + 2))] [.int (a_best σ (xs (i + 1)) (xs (i + 2)))] (c_X12_best t' h2 hg _ _) m_X12_best q36_14 xo_M rfl (by omega) (Nat.le_of_ble_eq_true rfl) dL_law_600 rfl (fun r M2 hc2 => ?_)
  obtain ⟨rfl, hR2, hg2⟩ := hc2
  show XV κ _ 603 _ [.int (a_best σ (xs (i + 1)) (xs (i + 2))), .int (a_best σ (xs (i + 1)) (xs (i + 2)))]
  refine x_icmp_eq_t (pc := 603) C 1193 dL_law_603 (by decide) rfl ?_
  exact x_I (fun H h => ⟨M1, M2, h.2, h.1, hR1, hR2, hg2, hc⟩) (K _)
set_option maxRecDepth 100000 in
set_option maxHeartbeats 4000000 in
theorem lw_case14 {κ : XK} {t t' : CT} {d b N : Nat} {xs : Nat → Int32} {i : Nat} {σ : SV} (C : XC κ RL cL_law 4 d) (hd : 90 ≤ d) (E : XE κ (wC t)) (E' : XE κ (wR t')) (hap : ∀ q, xA (wC t) q → ¬ xA (wR t') q) (hX : xSc κ b N xs) (hi : i + 6 ≤ N) (hN : N ≤ 3072) (K : ∀ σ' : SV, XV κ (LIn t t' σ') 1193 [(0, .ref b), (1, .ref (t.1 0)), (2, .ref (t'.1 0)), (3, .int (nI i))] []) : XV κ (LIn t t' σ) 608 [(0, .ref b), (1, .ref (t.1 0)), (2, .ref (t'.1 0)), (3, .int (nI i))] [] := by
  refine x_open (fun M M' h1 h2 hg hc => ?_)
  refine x_aload_n (pc := 608) C 1 dL_law_608 rfl ?_
  refine x_aload_n (pc := 609) C 0 dL_law_609 rfl ?_
  refine x_iload_n (pc := 610) C 3 dL_law_610 rfl ?_
  refine x_iconst (pc := 611) (v := nI 1) C dL_law_611 (by decide) ?_
  refine x_iadd (pc := 612) C dL_law_612 ?_
  refine x_eq (show nI i + nI 1 = nI (i + 1) from nI_add _ _) ?_
  refine x_sld (pc := 613) C hX (i := i + 1) (by omega) hN dL_law_613 ?_
  refine x_callVJ (pc := 614) C E (xOut_P hap) [.int (xs (i + 1))] [] (c_X11_fewest t h1 _) m_X11_fewest q37_3 xo_main rfl (by omega) (Nat.le_of_ble_eq_true rfl) dL_law_614 rfl (fun r M1 hc1 => ?_)
  obtain ⟨rfl, hR1⟩ := hc1
  show XV κ _ 617 _ [.int (a_fewest σ (xs (i + 1)))]
  refine x_I (I' := fun H => xP (wR t') M' H ∧ xP (wC t) M1 H) (fun H h => ⟨h.2, h.1⟩) ?_
  refine x_aload_n (pc := 617) C 2 dL_law_617 rfl ?_
  refine x_aload_n (pc := 618) C 0 dL_law_618 rfl ?_
  refine x_iload_n (pc := 619) C 3 dL_law_619 rfl ?_
  refine x_iconst (pc := 620) (v := nI 1) C dL_law_620 (by decide) ?_
  refine x_iadd (pc := 621) C dL_law_621 ?_
  refine x_eq (show nI i + nI 1 = nI (i + 1) from nI_add _ _) ?_
  refine x_sld (pc := 622) C hX (i := i + 1) (by omega) hN dL_law_622 ?_
  refine x_callVJ (pc := 623) C E' (xOut_P (fun q h1 h2 => hap q h2 h1)) [.int (xs (i + 1))] [.int (a_fewest σ (xs (i + 1)))] (c_X12_fewest t' h2 hg _) m_X12_fewest q37_20 xo_M rfl (by omega) (Nat.le_of_ble_eq_true rfl) dL_law_623 rfl (fun r M2 hc2 => ?_)
  obtain ⟨rfl, hR2, hg2⟩ := hc2
  show XV κ _ 626 _ [.int (a_fewest σ (xs (i + 1))), .int (a_fewest σ (xs (i + 1)))]
  refine x_icmp_eq_t (pc := 626) C 1193 dL_law_626 (by decide) rfl ?_
  exact x_I (fun H h => ⟨M1, M2, h.2, h.1, hR1, hR2, hg2, hc⟩) (K _)
set_option maxRecDepth 100000 in
set_option maxHeartbeats 4000000 in
theorem lw_case15 {κ : XK} {t t' : CT} {d b N : Nat} {xs : Nat → Int32} {i : Nat} {σ : SV} (C : XC κ RL cL_law 4 d) (hd : 90 ≤ d) (E : XE κ (wC t)) (E' : XE κ (wR t')) (hap : ∀ q, xA (wC t) q → ¬ xA (wR t') q) (hX : xSc κ b N xs) (hi : i + 6 ≤ N) (hN : N ≤ 3072) (K : ∀ σ' : SV, XV κ (LIn t t' σ') 1193 [(0, .ref b), (1, .ref (t.1 0)), (2, .ref (t'.1 0)), (3, .int (nI i))] []) : XV κ (LIn t t' σ) 631 [(0, .ref b), (1, .ref (t.1 0)), (2, .ref (t'.1 0)), (3, .int (nI i))] [] := by
  refine x_open (fun M M' h1 h2 hg hc => ?_)
  refine x_aload_n (pc := 631) C 1 dL_law_631 rfl ?_
  refine x_aload_n (pc := 632) C 0 dL_law_632 rfl ?_
  refine x_iload_n (pc := 633) C 3 dL_law_633 rfl ?_
  refine x_iconst (pc := 634) (v := nI 1) C dL_law_634 (by decide) ?_
  refine x_iadd (pc := 635) C dL_law_635 ?_
  refine x_eq (show nI i + nI 1 = nI (i + 1) from nI_add _ _) ?_
  refine x_sld (pc := 636) C hX (i := i + 1) (by omega) hN dL_law_636 ?_
  refine x_callVJ (pc := 637) C E (xOut_P hap) [.int (xs (i + 1))] [] (c_X11_worst t h1 _) m_X11_worst q38_4 xo_main rfl (by omega) (Nat.le_of_ble_eq_true rfl) dL_law_637 rfl (fun r M1 hc1 => ?_)
  obtain ⟨rfl, hR1⟩ := hc1
  show XV κ _ 640 _ [.int (a_worst σ (xs (i + 1)))]
  refine x_I (I' := fun H => xP (wR t') M' H ∧ xP (wC t) M1 H) (fun H h => ⟨h.2, h.1⟩) ?_
  refine x_aload_n (pc := 640) C 2 dL_law_640 rfl ?_
  refine x_aload_n (pc := 641) C 0 dL_law_641 rfl ?_
  refine x_iload_n (pc := 642) C 3 dL_law_642 rfl ?_
  refine x_iconst (pc := 643) (v := nI 1) C dL_law_643 (by decide) ?_
  refine x_iadd (pc := 644) C dL_law_644 ?_
  refine x_eq (show nI i + nI 1 = nI (i + 1) from nI_add _ _) ?_
  refine x_sld (pc := 645) C hX (i := i + 1) (by omega) hN dL_law_645 ?_
  refine x_callVJ (pc := 646) C E' (xOut_P (fun q h1 h2 => hap q h2 h1)) [.int (xs (i + 1))] [.int (a_worst σ (xs (i + 1)))] (c_X12_worst t' h2 hg _) m_X12_worst q38_9 xo_M rfl (by omega) (Nat.le_of_ble_eq_true rfl) dL_law_646 rfl (fun r M2 hc2 => ?_)
  obtain ⟨rfl, hR2, hg2⟩ := hc2
  show XV κ _ 649 _ [.int (a_worst σ (xs (i + 1))), .int (a_worst σ (xs (i + 1)))]
  refine x_icmp_eq_t (pc := 649) C 1193 dL_law_649 (by decide) rfl ?_
  exact x_I (fun H h => ⟨M1, M2, h.2, h.1, hR1, hR2, hg2, hc⟩) (K _)
set_option maxRecDepth 100000 in
set_option maxHeartbeats 4000000 in
theorem lw_case16 {κ : XK} {t t' : CT} {d b N : Nat} {xs : Nat → Int32} {i : Nat} {σ : SV} (C : XC κ RL cL_law 4 d) (hd : 90 ≤ d) (E : XE κ (wC t)) (E' : XE κ (wR t')) (hap : ∀ q, xA (wC t) q → ¬ xA (wR t') q) (hX : xSc κ b N xs) (hi : i + 6 ≤ N) (hN : N ≤ 3072) (K : ∀ σ' : SV, XV κ (LIn t t' σ') 1193 [(0, .ref b), (1, .ref (t.1 0)), (2, .ref (t'.1 0)), (3, .int (nI i))] []) : XV κ (LIn t t' σ) 654 [(0, .ref b), (1, .ref (t.1 0)), (2, .ref (t'.1 0)), (3, .int (nI i))] [] := by
  refine x_open (fun M M' h1 h2 hg hc => ?_)
  refine x_aload_n (pc := 654) C 1 dL_law_654 rfl ?_
  refine x_callVJ (pc := 655) C E (xOut_P hap) [] [] (c_X11_letGo t h1) m_X11_letGo q38_13 xo_main rfl (by omega) (Nat.le_of_ble_eq_true rfl) dL_law_655 rfl (fun r M1 hc1 => ?_)
  obtain ⟨rfl, hR1⟩ := hc1
  show XV κ _ 658 _ [.int (a_letGo σ)]
  refine x_I (I' := fun H => xP (wR t') M' H ∧ xP (wC t) M1 H) (fun H h => ⟨h.2, h.1⟩) ?_
  refine x_aload_n (pc := 658) C 2 dL_law_658 rfl ?_
  refine x_callVJ (pc := 659) C E' (xOut_P (fun q h1 h2 => hap q h2 h1)) [] [.int (a_letGo σ)] (c_X12_letGo t' h2 hg) m_X12_letGo q38_17 xo_M rfl (by omega) (Nat.le_of_ble_eq_true rfl) dL_law_659 rfl (fun r M2 hc2 => ?_)
  obtain ⟨rfl, hR2, hg2⟩ := hc2
  show XV κ _ 662 _ [.int (a_letGo σ), .int (a_letGo σ)]
  refine x_icmp_eq_t (pc := 662) C 1193 dL_law_662 (by decide) rfl ?_
  exact x_I (fun H h => ⟨M1, M2, h.2, h.1, hR1, hR2, hg2, hc⟩) (K _)
set_option maxRecDepth 100000 in
set_option maxHeartbeats 4000000 in
theorem lw_case17 {κ : XK} {t t' : CT} {d b N : Nat} {xs : Nat → Int32} {i : Nat} {σ : SV} (C : XC κ RL cL_law 4 d) (hd : 90 ≤ d) (E : XE κ (wC t)) (E' : XE κ (wR t')) (hap : ∀ q, xA (wC t) q → ¬ xA (wR t') q) (hX : xSc κ b N xs) (hi : i + 6 ≤ N) (hN : N ≤ 3072) (K : ∀ σ' : SV, XV κ (LIn t t' σ') 1193 [(0, .ref b), (1, .ref (t.1 0)), (2, .ref (t'.1 0)), (3, .int (nI i))] []) : XV κ (LIn t t' σ) 667 [(0, .ref b), (1, .ref (t.1 0)), (2, .ref (t'.1 0)), (3, .int (nI i))] [] := by
  refine x_open (fun M M' h1 h2 hg hc => ?_)
  refine x_aload_n (pc := 667) C 1 dL_law_667 rfl ?_
  refine x_aload_n (pc := 668) C 0 dL_law_668 rfl ?_
  refine x_iload_n (pc := 669) C 3 dL_law_669 rfl ?_
  refine x_iconst (pc := 670) (v := nI 1) C dL_law_670 (by decide) ?_
  refine x_iadd (pc := 671) C dL_law_671 ?_
  refine x_eq (show nI i + nI 1 = nI (i + 1) from nI_add _ _) ?_
  refine x_sld (pc := 672) C hX (i := i + 1) (by omega) hN dL_law_672 ?_
  refine x_aload_n (pc := 673) C 0 dL_law_673 rfl ?_
  refine x_iload_n (pc := 674) C 3 dL_law_674 rfl ?_
  refine x_iconst (pc := 675) (v := nI 2) C dL_law_675 (by decide) ?_
  refine x_iadd (pc := 676) C dL_law_676 ?_
  refine x_eq (show nI i + nI 2 = nI (i + 2) from nI_add _ _) ?_
  refine x_sld (pc := 677) C hX (i := i + 2) (by omega) hN dL_law_677 ?_
  refine x_callVJ (pc := 678) C E (xOut_P hap) [.int (xs (i + 1)), .int (xs (i + 2))] [] (c_X11_again t h1 _ _) m_X11_again q38_21 xo_main rfl (by omega) (Nat.le_of_ble_eq_true rfl) dL_law_678 rfl (fun r M1 hc1 => ?_)
  obtain ⟨rfl, hR1⟩ := hc1
  show XV κ _ 681 _ [.int (a_again σ (xs (i + 1)) (xs (i + 2)))]
  refine x_I (I' := fun H => xP (wR t') M' H ∧ xP (wC t) M1 H) (fun H h => ⟨h.2, h.1⟩) ?_
  refine x_aload_n (pc := 681) C 2 dL_law_681 rfl ?_
  refine x_aload_n (pc := 682) C 0 dL_law_682 rfl ?_
  refine x_iload_n (pc := 683) C 3 dL_law_683 rfl ?_
  refine x_iconst (pc := 684) (v := nI 1) C dL_law_684 (by decide) ?_
  refine x_iadd (pc := 685) C dL_law_685 ?_
  refine x_eq (show nI i + nI 1 = nI (i + 1) from nI_add _ _) ?_
  refine x_sld (pc := 686) C hX (i := i + 1) (by omega) hN dL_law_686 ?_
  refine x_aload_n (pc := 687) C 0 dL_law_687 rfl ?_
  refine x_iload_n (pc := 688) C 3 dL_law_688 rfl ?_
  refine x_iconst (pc := 689) (v := nI 2) C dL_law_689 (by decide) ?_
  refine x_iadd (pc := 690) C dL_law_690 ?_
  refine x_eq (show nI i + nI 2 = nI (i + 2) from nI_add _ _) ?_
  refine x_sld (pc := 691) C hX (i := i + 2) (by omega) hN dL_law_691 ?_
  refine x_callVJ (pc := 692) C E' (xOut_P (fun q h1 h2 => hap q h2 h1)) [.int (xs (i + 1)), .int (xs (i + 2))] [.int (a_again σ (xs (i + 1)) (xs (i + 2)))] (c_X12_again t' h2 hg _ _) m_X12_again q39_1 xo_M rfl (by omega) (Nat.le_of_ble_eq_true rfl) dL_law_692 rfl (fun r M2 hc2 => ?_)
  obtain ⟨rfl, hR2, hg2⟩ := hc2
  show XV κ _ 695 _ [.int (a_again σ (xs (i + 1)) (xs (i + 2))), .int (a_again σ (xs (i + 1)) (xs (i + 2)))]
  refine x_icmp_eq_t (pc := 695) C 1193 dL_law_695 (by decide) rfl ?_
  exact x_I (fun H h => ⟨M1, M2, h.2, h.1, hR1, hR2, hg2, hc⟩) (K _)
set_option maxRecDepth 100000 in
set_option maxHeartbeats 4000000 in
theorem lw_case18 {κ : XK} {t t' : CT} {d b N : Nat} {xs : Nat → Int32} {i : Nat} {σ : SV} (C : XC κ RL cL_law 4 d) (hd : 90 ≤ d) (E : XE κ (wC t)) (E' : XE κ (wR t')) (hap : ∀ q, xA (wC t) q → ¬ xA (wR t') q) (hX : xSc κ b N xs) (hi : i + 6 ≤ N) (hN : N ≤ 3072) (K : ∀ σ' : SV, XV κ (LIn t t' σ') 1193 [(0, .ref b), (1, .ref (t.1 0)), (2, .ref (t'.1 0)), (3, .int (nI i))] []) : XV κ (LIn t t' σ) 700 [(0, .ref b), (1, .ref (t.1 0)), (2, .ref (t'.1 0)), (3, .int (nI i))] [] := by
  refine x_open (fun M M' h1 h2 hg hc => ?_)
  refine x_aload_n (pc := 700) C 1 dL_law_700 rfl ?_
  refine x_aload_n (pc := 701) C 0 dL_law_701 rfl ?_
  refine x_iload_n (pc := 702) C 3 dL_law_702 rfl ?_
  refine x_iconst (pc := 703) (v := nI 1) C dL_law_703 (by decide) ?_
  refine x_iadd (pc := 704) C dL_law_704 ?_
  refine x_eq (show nI i + nI 1 = nI (i + 1) from nI_add _ _) ?_
  refine x_sld (pc := 705) C hX (i := i + 1) (by omega) hN dL_law_705 ?_
  refine x_callVJ (pc := 706) C E (xOut_P hap) [.int (xs (i + 1))] [] (c_X11_goes t h1 _) m_X11_goes q39_9 xo_main rfl (by omega) (Nat.le_of_ble_eq_true rfl) dL_law_706 rfl (fun r M1 hc1 => ?_)
  obtain ⟨rfl, hR1⟩ := hc1
  show XV κ _ 709 _ [.int (a_goes σ (xs (i + 1)))]
  refine x_I (I' := fun H => xP (wR t') M' H ∧ xP (wC t) M1 H) (fun H h => ⟨h.2, h.1⟩) ?_
  refine x_aload_n (pc := 709) C 2 dL_law_709 rfl ?_
  refine x_aload_n (pc := 710) C 0 dL_law_710 rfl ?_
  refine x_iload_n (pc := 711) C 3 dL_law_711 rfl ?_
  refine x_iconst (pc := 712) (v := nI 1) C dL_law_712 (by decide) ?_
  refine x_iadd (pc := 713) C dL_law_713 ?_
  refine x_eq (show nI i + nI 1 = nI (i + 1) from nI_add _ _) ?_
  refine x_sld (pc := 714) C hX (i := i + 1) (by omega) hN dL_law_714 ?_
  refine x_callVJ (pc := 715) C E' (xOut_P (fun q h1 h2 => hap q h2 h1)) [.int (xs (i + 1))] [.int (a_goes σ (xs (i + 1)))] (c_X12_goes t' h2 hg _) m_X12_goes q39_13 xo_M rfl (by omega) (Nat.le_of_ble_eq_true rfl) dL_law_715 rfl (fun r M2 hc2 => ?_)
  obtain ⟨rfl, hR2, hg2⟩ := hc2
  show XV κ _ 718 _ [.int (a_goes σ (xs (i + 1))), .int (a_goes σ (xs (i + 1)))]
  refine x_icmp_eq_t (pc := 718) C 1193 dL_law_718 (by decide) rfl ?_
  exact x_I (fun H h => ⟨M1, M2, h.2, h.1, hR1, hR2, hg2, hc⟩) (K _)
set_option maxRecDepth 100000 in
set_option maxHeartbeats 4000000 in
theorem lw_case19 {κ : XK} {t t' : CT} {d b N : Nat} {xs : Nat → Int32} {i : Nat} {σ : SV} (C : XC κ RL cL_law 4 d) (hd : 90 ≤ d) (E : XE κ (wC t)) (E' : XE κ (wR t')) (hap : ∀ q, xA (wC t) q → ¬ xA (wR t') q) (hX : xSc κ b N xs) (hi : i + 6 ≤ N) (hN : N ≤ 3072) (K : ∀ σ' : SV, XV κ (LIn t t' σ') 1193 [(0, .ref b), (1, .ref (t.1 0)), (2, .ref (t'.1 0)), (3, .int (nI i))] []) : XV κ (LIn t t' σ) 723 [(0, .ref b), (1, .ref (t.1 0)), (2, .ref (t'.1 0)), (3, .int (nI i))] [] := by
  refine x_open (fun M M' h1 h2 hg hc => ?_)
  refine x_aload_n (pc := 723) C 1 dL_law_723 rfl ?_
  refine x_aload_n (pc := 724) C 0 dL_law_724 rfl ?_
  refine x_iload_n (pc := 725) C 3 dL_law_725 rfl ?_
  refine x_iconst (pc := 726) (v := nI 1) C dL_law_726 (by decide) ?_
  refine x_iadd (pc := 727) C dL_law_727 ?_
  refine x_eq (show nI i + nI 1 = nI (i + 1) from nI_add _ _) ?_
  refine x_sld (pc := 728) C hX (i := i + 1) (by omega) hN dL_law_728 ?_
  refine x_aload_n (pc := 729) C 0 dL_law_729 rfl ?_
  refine x_iload_n (pc := 730) C 3 dL_law_730 rfl ?_
  refine x_iconst (pc := 731) (v := nI 2) C dL_law_731 (by decide) ?_
  refine x_iadd (pc := 732) C dL_law_732 ?_
  refine x_eq (show nI i + nI 2 = nI (i + 2) from nI_add _ _) ?_
  refine x_sld (pc := 733) C hX (i := i + 2) (by omega) hN dL_law_733 ?_
  refine x_callVJ (pc := 734) C E (xOut_P hap) [.int (xs (i + 1)), .int (xs (i + 2))] [] (c_X11_plan t h1 _ _) m_X11_plan q39_17 xo_main rfl (by omega) (Nat.le_of_ble_eq_true rfl) dL_law_734 rfl (fun r M1 hc1 => ?_)
  obtain ⟨rfl, hR1⟩ := hc1
  show XV κ _ 737 _ [.int (a_plan σ (xs (i + 1)) (xs (i + 2)))]
  refine x_I (I' := fun H => xP (wR t') M' H ∧ xP (wC t) M1 H) (fun H h => ⟨h.2, h.1⟩) ?_
  refine x_aload_n (pc := 737) C 2 dL_law_737 rfl ?_
  refine x_aload_n (pc := 738) C 0 dL_law_738 rfl ?_
  refine x_iload_n (pc := 739) C 3 dL_law_739 rfl ?_
  refine x_iconst (pc := 740) (v := nI 1) C dL_law_740 (by decide) ?_
  refine x_iadd (pc := 741) C dL_law_741 ?_
  refine x_eq (show nI i + nI 1 = nI (i + 1) from nI_add _ _) ?_
  refine x_sld (pc := 742) C hX (i := i + 1) (by omega) hN dL_law_742 ?_
  refine x_aload_n (pc := 743) C 0 dL_law_743 rfl ?_
  refine x_iload_n (pc := 744) C 3 dL_law_744 rfl ?_
  refine x_iconst (pc := 745) (v := nI 2) C dL_law_745 (by decide) ?_
  refine x_iadd (pc := 746) C dL_law_746 ?_
  refine x_eq (show nI i + nI 2 = nI (i + 2) from nI_add _ _) ?_
  refine x_sld (pc := 747) C hX (i := i + 2) (by omega) hN dL_law_747 ?_
  refine x_callVJ (pc := 748) C E' (xOut_P (fun q h1 h2 => hap q h2 h1)) [.int (xs (i + 1)), .int (xs (i + 2))] [.int (a_plan σ (xs (i + 1)) (xs (i + 2)))] (c_X12_plan t' h2 hg _ _) m_X12_plan q40_14 xo_M rfl (by omega) (Nat.le_of_ble_eq_true rfl) dL_law_748 rfl (fun r M2 hc2 => ?_)
  obtain ⟨rfl, hR2, hg2⟩ := hc2
  show XV κ _ 751 _ [.int (a_plan σ (xs (i + 1)) (xs (i + 2))), .int (a_plan σ (xs (i + 1)) (xs (i + 2)))]
  refine x_icmp_eq_t (pc := 751) C 1193 dL_law_751 (by decide) rfl ?_
  exact x_I (fun H h => ⟨M1, M2, h.2, h.1, hR1, hR2, hg2, hc⟩) (K _)
set_option maxRecDepth 100000 in
set_option maxHeartbeats 4000000 in
theorem lw_case20 {κ : XK} {t t' : CT} {d b N : Nat} {xs : Nat → Int32} {i : Nat} {σ : SV} (C : XC κ RL cL_law 4 d) (hd : 90 ≤ d) (E : XE κ (wC t)) (E' : XE κ (wR t')) (hap : ∀ q, xA (wC t) q → ¬ xA (wR t') q) (hX : xSc κ b N xs) (hi : i + 6 ≤ N) (hN : N ≤ 3072) (K : ∀ σ' : SV, XV κ (LIn t t' σ') 1193 [(0, .ref b), (1, .ref (t.1 0)), (2, .ref (t'.1 0)), (3, .int (nI i))] []) : XV κ (LIn t t' σ) 756 [(0, .ref b), (1, .ref (t.1 0)), (2, .ref (t'.1 0)), (3, .int (nI i))] [] := by
  refine x_open (fun M M' h1 h2 hg hc => ?_)
  refine x_aload_n (pc := 756) C 1 dL_law_756 rfl ?_
  refine x_aload_n (pc := 757) C 0 dL_law_757 rfl ?_
  refine x_iload_n (pc := 758) C 3 dL_law_758 rfl ?_
  refine x_iconst (pc := 759) (v := nI 1) C dL_law_759 (by decide) ?_
  refine x_iadd (pc := 760) C dL_law_760 ?_
  refine x_eq (show nI i + nI 1 = nI (i + 1) from nI_add _ _) ?_
  refine x_sld (pc := 761) C hX (i := i + 1) (by omega) hN dL_law_761 ?_
  refine x_aload_n (pc := 762) C 0 dL_law_762 rfl ?_
  refine x_iload_n (pc := 763) C 3 dL_law_763 rfl ?_
  refine x_iconst (pc := 764) (v := nI 2) C dL_law_764 (by decide) ?_
  refine x_iadd (pc := 765) C dL_law_765 ?_
  refine x_eq (show nI i + nI 2 = nI (i + 2) from nI_add _ _) ?_
  refine x_sld (pc := 766) C hX (i := i + 2) (by omega) hN dL_law_766 ?_
  refine x_aload_n (pc := 767) C 0 dL_law_767 rfl ?_
  refine x_iload_n (pc := 768) C 3 dL_law_768 rfl ?_
  refine x_iconst (pc := 769) (v := nI 3) C dL_law_769 (by decide) ?_
  refine x_iadd (pc := 770) C dL_law_770 ?_
  refine x_eq (show nI i + nI 3 = nI (i + 3) from nI_add _ _) ?_
  refine x_sld (pc := 771) C hX (i := i + 3) (by omega) hN dL_law_771 ?_
  refine x_aload_n (pc := 772) C 0 dL_law_772 rfl ?_
  refine x_iload_n (pc := 773) C 3 dL_law_773 rfl ?_
  refine x_iconst (pc := 774) (v := nI 4) C dL_law_774 (by decide) ?_
  refine x_iadd (pc := 775) C dL_law_775 ?_
  refine x_eq (show nI i + nI 4 = nI (i + 4) from nI_add _ _) ?_
  refine x_sld (pc := 776) C hX (i := i + 4) (by omega) hN dL_law_776 ?_
  refine x_callVJ (pc := 777) C E (xOut_P hap) [.int (xs (i + 1)), .int (xs (i + 2)), .int (xs (i + 3)), .int (xs (i + 4))] [] (c_X11_tells t h1 _ _ _ _) m_X11_tells q41_2 xo_main rfl (by omega) (Nat.le_of_ble_eq_true rfl) dL_law_777 rfl (fun r M1 hc1 => ?_)
  obtain ⟨rfl, hR1⟩ := hc1
  show XV κ _ 780 _ [.int (a_tells σ (xs (i + 1)) (xs (i + 2)) (xs (i + 3)) (xs (i + 4)))]
  refine x_I (I' := fun H => xP (wR t') M' H ∧ xP (wC t) M1 H) (fun H h => ⟨h.2, h.1⟩) ?_
  refine x_aload_n (pc := 780) C 2 dL_law_780 rfl ?_
  refine x_aload_n (pc := 781) C 0 dL_law_781 rfl ?_
  refine x_iload_n (pc := 782) C 3 dL_law_782 rfl ?_
  refine x_iconst (pc := 783) (v := nI 1) C dL_law_783 (by decide) ?_
  refine x_iadd (pc := 784) C dL_law_784 ?_
  refine x_eq (show nI i + nI 1 = nI (i + 1) from nI_add _ _) ?_
  refine x_sld (pc := 785) C hX (i := i + 1) (by omega) hN dL_law_785 ?_
  refine x_aload_n (pc := 786) C 0 dL_law_786 rfl ?_
  refine x_iload_n (pc := 787) C 3 dL_law_787 rfl ?_
  refine x_iconst (pc := 788) (v := nI 2) C dL_law_788 (by decide) ?_
  refine x_iadd (pc := 789) C dL_law_789 ?_
  refine x_eq (show nI i + nI 2 = nI (i + 2) from nI_add _ _) ?_
  refine x_sld (pc := 790) C hX (i := i + 2) (by omega) hN dL_law_790 ?_
  refine x_aload_n (pc := 791) C 0 dL_law_791 rfl ?_
  refine x_iload_n (pc := 792) C 3 dL_law_792 rfl ?_
  refine x_iconst (pc := 793) (v := nI 3) C dL_law_793 (by decide) ?_
  refine x_iadd (pc := 794) C dL_law_794 ?_
  refine x_eq (show nI i + nI 3 = nI (i + 3) from nI_add _ _) ?_
  refine x_sld (pc := 795) C hX (i := i + 3) (by omega) hN dL_law_795 ?_
  refine x_aload_n (pc := 796) C 0 dL_law_796 rfl ?_
  refine x_iload_n (pc := 797) C 3 dL_law_797 rfl ?_
  refine x_iconst (pc := 798) (v := nI 4) C dL_law_798 (by decide) ?_
  refine x_iadd (pc := 799) C dL_law_799 ?_
  refine x_eq (show nI i + nI 4 = nI (i + 4) from nI_add _ _) ?_
  refine x_sld (pc := 800) C hX (i := i + 4) (by omega) hN dL_law_800 ?_
  refine x_callVJ (pc := 801) C E' (xOut_P (fun q h1 h2 => hap q h2 h1)) [.int (xs (i + 1)), .int (xs (i + 2)), .int (xs (i + 3)), .int (xs (i + 4))] [.int (a_tells σ (xs (i + 1)) (xs (i + 2)) (xs (i + 3)) (xs (i + 4)))] (c_X12_tells t' h2 hg _ _ _ _) m_X12_tells q42_5 xo_M rfl (by omega) (Nat.le_of_ble_eq_true rfl) dL_law_801 rfl (fun r M2 hc2 => ?_)
  obtain ⟨rfl, hR2, hg2⟩ := hc2
  show XV κ _ 804 _ [.int (a_tells σ (xs (i + 1)) (xs (i + 2)) (xs (i + 3)) (xs (i + 4))), .int (a_tells σ (xs (i + 1)) (xs (i + 2)) (xs (i + 3)) (xs (i + 4)))]
  refine x_icmp_eq_t (pc := 804) C 1193 dL_law_804 (by decide) rfl ?_
  exact x_I (fun H h => ⟨M1, M2, h.2, h.1, hR1, hR2, hg2, hc⟩) (K _)
set_option maxRecDepth 100000 in
set_option maxHeartbeats 4000000 in
theorem lw_case21 {κ : XK} {t t' : CT} {d b N : Nat} {xs : Nat → Int32} {i : Nat} {σ : SV} (C : XC κ RL cL_law 4 d) (hd : 90 ≤ d) (E : XE κ (wC t)) (E' : XE κ (wR t')) (hap : ∀ q, xA (wC t) q → ¬ xA (wR t') q) (hX : xSc κ b N xs) (hi : i + 6 ≤ N) (hN : N ≤ 3072) (K : ∀ σ' : SV, XV κ (LIn t t' σ') 1193 [(0, .ref b), (1, .ref (t.1 0)), (2, .ref (t'.1 0)), (3, .int (nI i))] []) : XV κ (LIn t t' σ) 809 [(0, .ref b), (1, .ref (t.1 0)), (2, .ref (t'.1 0)), (3, .int (nI i))] [] := by
  refine x_open (fun M M' h1 h2 hg hc => ?_)
  refine x_aload_n (pc := 809) C 1 dL_law_809 rfl ?_
  refine x_aload_n (pc := 810) C 0 dL_law_810 rfl ?_
  refine x_iload_n (pc := 811) C 3 dL_law_811 rfl ?_
  refine x_iconst (pc := 812) (v := nI 1) C dL_law_812 (by decide) ?_
  refine x_iadd (pc := 813) C dL_law_813 ?_
  refine x_eq (show nI i + nI 1 = nI (i + 1) from nI_add _ _) ?_
  refine x_sld (pc := 814) C hX (i := i + 1) (by omega) hN dL_law_814 ?_
  refine x_aload_n (pc := 815) C 0 dL_law_815 rfl ?_
  refine x_iload_n (pc := 816) C 3 dL_law_816 rfl ?_
  refine x_iconst (pc := 817) (v := nI 2) C dL_law_817 (by decide) ?_
  refine x_iadd (pc := 818) C dL_law_818 ?_
  refine x_eq (show nI i + nI 2 = nI (i + 2) from nI_add _ _) ?_
  refine x_sld (pc := 819) C hX (i := i + 2) (by omega) hN dL_law_819 ?_
  refine x_callVJ (pc := 820) C E (xOut_P hap) [.int (xs (i + 1)), .int (xs (i + 2))] [] (c_X11_film t h1 _ _) m_X11_film q42_18 xo_main rfl (by omega) (Nat.le_of_ble_eq_true rfl) dL_law_820 rfl (fun r M1 hc1 => ?_)
  obtain ⟨rfl, hR1⟩ := hc1
  show XV κ _ 823 _ [.int (o_film σ (xs (i + 1)) (xs (i + 2))).2]
  refine x_I (I' := fun H => xP (wR t') M' H ∧ xP (wC t) M1 H) (fun H h => ⟨h.2, h.1⟩) ?_
  refine x_aload_n (pc := 823) C 2 dL_law_823 rfl ?_
  refine x_aload_n (pc := 824) C 0 dL_law_824 rfl ?_
  refine x_iload_n (pc := 825) C 3 dL_law_825 rfl ?_
  refine x_iconst (pc := 826) (v := nI 1) C dL_law_826 (by decide) ?_
  refine x_iadd (pc := 827) C dL_law_827 ?_
  refine x_eq (show nI i + nI 1 = nI (i + 1) from nI_add _ _) ?_
  refine x_sld (pc := 828) C hX (i := i + 1) (by omega) hN dL_law_828 ?_
  refine x_aload_n (pc := 829) C 0 dL_law_829 rfl ?_
  refine x_iload_n (pc := 830) C 3 dL_law_830 rfl ?_
  refine x_iconst (pc := 831) (v := nI 2) C dL_law_831 (by decide) ?_
  refine x_iadd (pc := 832) C dL_law_832 ?_
  refine x_eq (show nI i + nI 2 = nI (i + 2) from nI_add _ _) ?_
  refine x_sld (pc := 833) C hX (i := i + 2) (by omega) hN dL_law_833 ?_
  refine x_callVJ (pc := 834) C E' (xOut_P (fun q h1 h2 => hap q h2 h1)) [.int (xs (i + 1)), .int (xs (i + 2))] [.int (o_film σ (xs (i + 1)) (xs (i + 2))).2] (c_X12_film t' h2 hg _ _ (cok_hcU hc)) m_X12_film q43_11 xo_M rfl (by omega) (Nat.le_of_ble_eq_true rfl) dL_law_834 rfl (fun r M2 hc2 => ?_)
  obtain ⟨rfl, hR2, hg2⟩ := hc2
  show XV κ _ 837 _ [.int (o_film σ (xs (i + 1)) (xs (i + 2))).2, .int (o_film σ (xs (i + 1)) (xs (i + 2))).2]
  refine x_icmp_eq_t (pc := 837) C 1193 dL_law_837 (by decide) rfl ?_
  exact x_I (fun H h => ⟨M1, M2, h.2, h.1, hR1, hR2, hg2, (cok_film hc _ _)⟩) (K _)
set_option maxRecDepth 100000 in
set_option maxHeartbeats 4000000 in
theorem lw_case22 {κ : XK} {t t' : CT} {d b N : Nat} {xs : Nat → Int32} {i : Nat} {σ : SV} (C : XC κ RL cL_law 4 d) (hd : 90 ≤ d) (E : XE κ (wC t)) (E' : XE κ (wR t')) (hap : ∀ q, xA (wC t) q → ¬ xA (wR t') q) (hX : xSc κ b N xs) (hi : i + 6 ≤ N) (hN : N ≤ 3072) (K : ∀ σ' : SV, XV κ (LIn t t' σ') 1193 [(0, .ref b), (1, .ref (t.1 0)), (2, .ref (t'.1 0)), (3, .int (nI i))] []) : XV κ (LIn t t' σ) 842 [(0, .ref b), (1, .ref (t.1 0)), (2, .ref (t'.1 0)), (3, .int (nI i))] [] := by
  refine x_open (fun M M' h1 h2 hg hc => ?_)
  refine x_aload_n (pc := 842) C 1 dL_law_842 rfl ?_
  refine x_aload_n (pc := 843) C 0 dL_law_843 rfl ?_
  refine x_iload_n (pc := 844) C 3 dL_law_844 rfl ?_
  refine x_iconst (pc := 845) (v := nI 1) C dL_law_845 (by decide) ?_
  refine x_iadd (pc := 846) C dL_law_846 ?_
  refine x_eq (show nI i + nI 1 = nI (i + 1) from nI_add _ _) ?_
  refine x_sld (pc := 847) C hX (i := i + 1) (by omega) hN dL_law_847 ?_
  refine x_callVJ (pc := 848) C E (xOut_P hap) [.int (xs (i + 1))] [] (c_X11_lot t h1 _) m_X11_lot q43_20 xo_main rfl (by omega) (Nat.le_of_ble_eq_true rfl) dL_law_848 rfl (fun r M1 hc1 => ?_)
  obtain ⟨rfl, hR1⟩ := hc1
  show XV κ _ 851 _ [.int (a_lot σ (xs (i + 1)))]
  refine x_I (I' := fun H => xP (wR t') M' H ∧ xP (wC t) M1 H) (fun H h => ⟨h.2, h.1⟩) ?_
  refine x_aload_n (pc := 851) C 2 dL_law_851 rfl ?_
  refine x_aload_n (pc := 852) C 0 dL_law_852 rfl ?_
  refine x_iload_n (pc := 853) C 3 dL_law_853 rfl ?_
  refine x_iconst (pc := 854) (v := nI 1) C dL_law_854 (by decide) ?_
  refine x_iadd (pc := 855) C dL_law_855 ?_
  refine x_eq (show nI i + nI 1 = nI (i + 1) from nI_add _ _) ?_
  refine x_sld (pc := 856) C hX (i := i + 1) (by omega) hN dL_law_856 ?_
  refine x_callVJ (pc := 857) C E' (xOut_P (fun q h1 h2 => hap q h2 h1)) [.int (xs (i + 1))] [.int (a_lot σ (xs (i + 1)))] (c_X12_lot t' h2 hg _) m_X12_lot q44_5 xo_M rfl (by omega) (Nat.le_of_ble_eq_true rfl) dL_law_857 rfl (fun r M2 hc2 => ?_)
  obtain ⟨rfl, hR2, hg2⟩ := hc2
  show XV κ _ 860 _ [.int (a_lot σ (xs (i + 1))), .int (a_lot σ (xs (i + 1)))]
  refine x_icmp_eq_t (pc := 860) C 1193 dL_law_860 (by decide) rfl ?_
  exact x_I (fun H h => ⟨M1, M2, h.2, h.1, hR1, hR2, hg2, hc⟩) (K _)
set_option maxRecDepth 100000 in
set_option maxHeartbeats 4000000 in
theorem lw_case23 {κ : XK} {t t' : CT} {d b N : Nat} {xs : Nat → Int32} {i : Nat} {σ : SV} (C : XC κ RL cL_law 4 d) (hd : 90 ≤ d) (E : XE κ (wC t)) (E' : XE κ (wR t')) (hap : ∀ q, xA (wC t) q → ¬ xA (wR t') q) (hX : xSc κ b N xs) (hi : i + 6 ≤ N) (hN : N ≤ 3072) (K : ∀ σ' : SV, XV κ (LIn t t' σ') 1193 [(0, .ref b), (1, .ref (t.1 0)), (2, .ref (t'.1 0)), (3, .int (nI i))] []) : XV κ (LIn t t' σ) 865 [(0, .ref b), (1, .ref (t.1 0)), (2, .ref (t'.1 0)), (3, .int (nI i))] [] := by
  refine x_open (fun M M' h1 h2 hg hc => ?_)
  refine x_aload_n (pc := 865) C 1 dL_law_865 rfl ?_
  refine x_aload_n (pc := 866) C 0 dL_law_866 rfl ?_
  refine x_iload_n (pc := 867) C 3 dL_law_867 rfl ?_
  refine x_iconst (pc := 868) (v := nI 1) C dL_law_868 (by decide) ?_
  refine x_iadd (pc := 869) C dL_law_869 ?_
  refine x_eq (show nI i + nI 1 = nI (i + 1) from nI_add _ _) ?_
  refine x_sld (pc := 870) C hX (i := i + 1) (by omega) hN dL_law_870 ?_
  refine x_aload_n (pc := 871) C 0 dL_law_871 rfl ?_
  refine x_iload_n (pc := 872) C 3 dL_law_872 rfl ?_
  refine x_iconst (pc := 873) (v := nI 2) C dL_law_873 (by decide) ?_
  refine x_iadd (pc := 874) C dL_law_874 ?_
  refine x_eq (show nI i + nI 2 = nI (i + 2) from nI_add _ _) ?_
  refine x_sld (pc := 875) C hX (i := i + 2) (by omega) hN dL_law_875 ?_
  refine x_aload_n (pc := 876) C 0 dL_law_876 rfl ?_
  refine x_iload_n (pc := 877) C 3 dL_law_877 rfl ?_
  refine x_iconst (pc := 878) (v := nI 3) C dL_law_878 (by decide) ?_
  refine x_iadd (pc := 879) C dL_law_879 ?_
  refine x_eq (show nI i + nI 3 = nI (i + 3) from nI_add _ _) ?_
  refine x_sld (pc := 880) C hX (i := i + 3) (by omega) hN dL_law_880 ?_
  refine x_callVJ (pc := 881) C E (xOut_P hap) [.int (xs (i + 1)), .int (xs (i + 2)), .int (xs (i + 3))] [] (c_X11_chance t h1 _ _ _) m_X11_chance q44_14 xo_main rfl (by omega) (Nat.le_of_ble_eq_true rfl) dL_law_881 rfl (fun r M1 hc1 => ?_)
  obtain ⟨rfl, hR1⟩ := hc1
  show XV κ _ 884 _ [.long (a_chance σ (xs (i + 1)) (xs (i + 2)) (xs (i + 3)))]
  refine x_I (I' := fun H => xP (wR t') M' H ∧ xP (wC t) M1 H) (fun H h => ⟨h.2, h.1⟩) ?_
  refine x_aload_n (pc := 884) C 2 dL_law_884 rfl ?_
  refine x_aload_n (pc := 885) C 0 dL_law_885 rfl ?_
  refine x_iload_n (pc := 886) C 3 dL_law_886 rfl ?_
  refine x_iconst (pc := 887) (v := nI 1) C dL_law_887 (by decide) ?_
  refine x_iadd (pc := 888) C dL_law_888 ?_
  refine x_eq (show nI i + nI 1 = nI (i + 1) from nI_add _ _) ?_
  refine x_sld (pc := 889) C hX (i := i + 1) (by omega) hN dL_law_889 ?_
  refine x_aload_n (pc := 890) C 0 dL_law_890 rfl ?_
  refine x_iload_n (pc := 891) C 3 dL_law_891 rfl ?_
  refine x_iconst (pc := 892) (v := nI 2) C dL_law_892 (by decide) ?_
  refine x_iadd (pc := 893) C dL_law_893 ?_
  refine x_eq (show nI i + nI 2 = nI (i + 2) from nI_add _ _) ?_
  refine x_sld (pc := 894) C hX (i := i + 2) (by omega) hN dL_law_894 ?_
  refine x_aload_n (pc := 895) C 0 dL_law_895 rfl ?_
  refine x_iload_n (pc := 896) C 3 dL_law_896 rfl ?_
  refine x_iconst (pc := 897) (v := nI 3) C dL_law_897 (by decide) ?_
  refine x_iadd (pc := 898) C dL_law_898 ?_
  refine x_eq (show nI i + nI 3 = nI (i + 3) from nI_add _ _) ?_
  refine x_sld (pc := 899) C hX (i := i + 3) (by omega) hN dL_law_899 ?_
  refine x_callVJ (pc := 900) C E' (xOut_P (fun q h1 h2 => hap q h2 h1)) [.int (xs (i + 1)), .int (xs (i + 2)), .int (xs (i + 3))] [.long (a_chance σ (xs (i + 1)) (xs (i + 2)) (xs (i + 3)))] (c_X12_chance t' h2 hg _ _ _) m_X12_chance q44_22 xo_M rfl (by omega) (Nat.le_of_ble_eq_true rfl) dL_law_900 rfl (fun r M2 hc2 => ?_)
  obtain ⟨rfl, hR2, hg2⟩ := hc2
  show XV κ _ 903 _ [.long (a_chance σ (xs (i + 1)) (xs (i + 2)) (xs (i + 3))), .long (a_chance σ (xs (i + 1)) (xs (i + 2)) (xs (i + 3)))]
  refine x_lcmp (pc := 903) C dL_law_903 ?_
  refine x_eq (show lg_cmp (a_chance σ (xs (i + 1)) (xs (i + 2)) (xs (i + 3))) (a_chance σ (xs (i + 1)) (xs (i + 2)) (xs (i + 3))) = 0 from lg_cmp_rf _) ?_
  refine x_if_eq_t (pc := 904) C 1193 dL_law_904 (by decide) rfl ?_
  exact x_I (fun H h => ⟨M1, M2, h.2, h.1, hR1, hR2, hg2, hc⟩) (K _)
set_option maxRecDepth 100000 in
set_option maxHeartbeats 4000000 in
theorem lw_case24 {κ : XK} {t t' : CT} {d b N : Nat} {xs : Nat → Int32} {i : Nat} {σ : SV} (C : XC κ RL cL_law 4 d) (hd : 90 ≤ d) (E : XE κ (wC t)) (E' : XE κ (wR t')) (hap : ∀ q, xA (wC t) q → ¬ xA (wR t') q) (hX : xSc κ b N xs) (hi : i + 6 ≤ N) (hN : N ≤ 3072) (K : ∀ σ' : SV, XV κ (LIn t t' σ') 1193 [(0, .ref b), (1, .ref (t.1 0)), (2, .ref (t'.1 0)), (3, .int (nI i))] []) : XV κ (LIn t t' σ) 909 [(0, .ref b), (1, .ref (t.1 0)), (2, .ref (t'.1 0)), (3, .int (nI i))] [] := by
  refine x_open (fun M M' h1 h2 hg hc => ?_)
  refine x_aload_n (pc := 909) C 1 dL_law_909 rfl ?_
  refine x_callVJ (pc := 910) C E (xOut_P hap) [] [] (c_X11_image t h1) m_X11_image q45_4 xo_main rfl (by omega) (Nat.le_of_ble_eq_true rfl) dL_law_910 rfl (fun r M1 hc1 => ?_)
  obtain ⟨rfl, hR1⟩ := hc1
  show XV κ _ 913 _ [.int (o_image σ).2]
  refine x_I (I' := fun H => xP (wR t') M' H ∧ xP (wC t) M1 H) (fun H h => ⟨h.2, h.1⟩) ?_
  refine x_aload_n (pc := 913) C 2 dL_law_913 rfl ?_
  refine x_callVJ (pc := 914) C E' (xOut_P (fun q h1 h2 => hap q h2 h1)) [] [.int (o_image σ).2] (c_X12_image t' h2 hg) m_X12_image q45_8 xo_M rfl (by omega) (Nat.le_of_ble_eq_true rfl) dL_law_914 rfl (fun r M2 hc2 => ?_)
  obtain ⟨rfl, hR2, hg2⟩ := hc2
  show XV κ _ 917 _ [.int (o_image σ).2, .int (o_image σ).2]
  refine x_icmp_eq_t (pc := 917) C 1193 dL_law_917 (by decide) rfl ?_
  exact x_I (fun H h => ⟨M1, M2, h.2, h.1, hR1, hR2, hg2, (cok_image hc)⟩) (K _)
set_option maxRecDepth 100000 in
set_option maxHeartbeats 4000000 in
theorem lw_case25 {κ : XK} {t t' : CT} {d b N : Nat} {xs : Nat → Int32} {i : Nat} {σ : SV} (C : XC κ RL cL_law 4 d) (hd : 90 ≤ d) (E : XE κ (wC t)) (E' : XE κ (wR t')) (hap : ∀ q, xA (wC t) q → ¬ xA (wR t') q) (hX : xSc κ b N xs) (hi : i + 6 ≤ N) (hN : N ≤ 3072) (K : ∀ σ' : SV, XV κ (LIn t t' σ') 1193 [(0, .ref b), (1, .ref (t.1 0)), (2, .ref (t'.1 0)), (3, .int (nI i))] []) : XV κ (LIn t t' σ) 922 [(0, .ref b), (1, .ref (t.1 0)), (2, .ref (t'.1 0)), (3, .int (nI i))] [] := by
  refine x_open (fun M M' h1 h2 hg hc => ?_)
  refine x_aload_n (pc := 922) C 1 dL_law_922 rfl ?_
  refine x_callVJ (pc := 923) C E (xOut_P hap) [] [] (c_X11_back t h1) m_X11_back q45_14 xo_main rfl (by omega) (Nat.le_of_ble_eq_true rfl) dL_law_923 rfl (fun r M1 hc1 => ?_)
  obtain ⟨rfl, hR1⟩ := hc1
  show XV κ _ 926 _ [.int (o_back σ).2]
  refine x_I (I' := fun H => xP (wR t') M' H ∧ xP (wC t) M1 H) (fun H h => ⟨h.2, h.1⟩) ?_
  refine x_aload_n (pc := 926) C 2 dL_law_926 rfl ?_
  refine x_callVJ (pc := 927) C E' (xOut_P (fun q h1 h2 => hap q h2 h1)) [] [.int (o_back σ).2] (c_X12_back t' h2 hg) m_X12_back q45_18 xo_M rfl (by omega) (Nat.le_of_ble_eq_true rfl) dL_law_927 rfl (fun r M2 hc2 => ?_)
  obtain ⟨rfl, hR2, hg2⟩ := hc2
  show XV κ _ 930 _ [.int (o_back σ).2, .int (o_back σ).2]
  refine x_icmp_eq_t (pc := 930) C 1193 dL_law_930 (by decide) rfl ?_
  exact x_I (fun H h => ⟨M1, M2, h.2, h.1, hR1, hR2, hg2, (cok_back hc)⟩) (K _)
set_option maxRecDepth 100000 in
set_option maxHeartbeats 4000000 in
theorem lw_case26 {κ : XK} {t t' : CT} {d b N : Nat} {xs : Nat → Int32} {i : Nat} {σ : SV} (C : XC κ RL cL_law 4 d) (hd : 90 ≤ d) (E : XE κ (wC t)) (E' : XE κ (wR t')) (hap : ∀ q, xA (wC t) q → ¬ xA (wR t') q) (hX : xSc κ b N xs) (hi : i + 6 ≤ N) (hN : N ≤ 3072) (K : ∀ σ' : SV, XV κ (LIn t t' σ') 1193 [(0, .ref b), (1, .ref (t.1 0)), (2, .ref (t'.1 0)), (3, .int (nI i))] []) : XV κ (LIn t t' σ) 935 [(0, .ref b), (1, .ref (t.1 0)), (2, .ref (t'.1 0)), (3, .int (nI i))] [] := by
  refine x_open (fun M M' h1 h2 hg hc => ?_)
  refine x_aload_n (pc := 935) C 1 dL_law_935 rfl ?_
  refine x_aload_n (pc := 936) C 0 dL_law_936 rfl ?_
  refine x_iload_n (pc := 937) C 3 dL_law_937 rfl ?_
  refine x_iconst (pc := 938) (v := nI 1) C dL_law_938 (by decide) ?_
  refine x_iadd (pc := 939) C dL_law_939 ?_
  refine x_eq (show nI i + nI 1 = nI (i + 1) from nI_add _ _) ?_
  refine x_sld (pc := 940) C hX (i := i + 1) (by omega) hN dL_law_940 ?_
  refine x_callVJ (pc := 941) C E (xOut_P hap) [.int (xs (i + 1))] [] (c_X11_count t h1 _) m_X11_count q45_22 xo_main rfl (by omega) (Nat.le_of_ble_eq_true rfl) dL_law_941 rfl (fun r M1 hc1 => ?_)
  obtain ⟨rfl, hR1⟩ := hc1
  show XV κ _ 944 _ [.int (a_count σ (xs (i + 1)))]
  refine x_I (I' := fun H => xP (wR t') M' H ∧ xP (wC t) M1 H) (fun H h => ⟨h.2, h.1⟩) ?_
  refine x_aload_n (pc := 944) C 2 dL_law_944 rfl ?_
  refine x_aload_n (pc := 945) C 0 dL_law_945 rfl ?_
  refine x_iload_n (pc := 946) C 3 dL_law_946 rfl ?_
  refine x_iconst (pc := 947) (v := nI 1) C dL_law_947 (by decide) ?_
  refine x_iadd (pc := 948) C dL_law_948 ?_
  refine x_eq (show nI i + nI 1 = nI (i + 1) from nI_add _ _) ?_
  refine x_sld (pc := 949) C hX (i := i + 1) (by omega) hN dL_law_949 ?_
  refine x_callVJ (pc := 950) C E' (xOut_P (fun q h1 h2 => hap q h2 h1)) [.int (xs (i + 1))] [.int (a_count σ (xs (i + 1)))] (c_X12_count t' h2 hg _) m_X12_count q46_6 xo_M rfl (by omega) (Nat.le_of_ble_eq_true rfl) dL_law_950 rfl (fun r M2 hc2 => ?_)
  obtain ⟨rfl, hR2, hg2⟩ := hc2
  show XV κ _ 953 _ [.int (a_count σ (xs (i + 1))), .int (a_count σ (xs (i + 1)))]
  refine x_icmp_eq_t (pc := 953) C 1193 dL_law_953 (by decide) rfl ?_
  exact x_I (fun H h => ⟨M1, M2, h.2, h.1, hR1, hR2, hg2, hc⟩) (K _)
set_option maxRecDepth 100000 in
set_option maxHeartbeats 4000000 in
theorem lw_case27 {κ : XK} {t t' : CT} {d b N : Nat} {xs : Nat → Int32} {i : Nat} {σ : SV} (C : XC κ RL cL_law 4 d) (hd : 90 ≤ d) (E : XE κ (wC t)) (E' : XE κ (wR t')) (hap : ∀ q, xA (wC t) q → ¬ xA (wR t') q) (hX : xSc κ b N xs) (hi : i + 6 ≤ N) (hN : N ≤ 3072) (K : ∀ σ' : SV, XV κ (LIn t t' σ') 1193 [(0, .ref b), (1, .ref (t.1 0)), (2, .ref (t'.1 0)), (3, .int (nI i))] []) : XV κ (LIn t t' σ) 958 [(0, .ref b), (1, .ref (t.1 0)), (2, .ref (t'.1 0)), (3, .int (nI i))] [] := by
  refine x_open (fun M M' h1 h2 hg hc => ?_)
  refine x_aload_n (pc := 958) C 1 dL_law_958 rfl ?_
  refine x_aload_n (pc := 959) C 0 dL_law_959 rfl ?_
  refine x_iload_n (pc := 960) C 3 dL_law_960 rfl ?_
  refine x_iconst (pc := 961) (v := nI 1) C dL_law_961 (by decide) ?_
  refine x_iadd (pc := 962) C dL_law_962 ?_
  refine x_eq (show nI i + nI 1 = nI (i + 1) from nI_add _ _) ?_
  refine x_sld (pc := 963) C hX (i := i + 1) (by omega) hN dL_law_963 ?_
  refine x_aload_n (pc := 964) C 0 dL_law_964 rfl ?_
  refine x_iload_n (pc := 965) C 3 dL_law_965 rfl ?_
  refine x_iconst (pc := 966) (v := nI 2) C dL_law_966 (by decide) ?_
  refine x_iadd (pc := 967) C dL_law_967 ?_
  refine x_eq (show nI i + nI 2 = nI (i + 2) from nI_add _ _) ?_
  refine x_sld (pc := 968) C hX (i := i + 2) (by omega) hN dL_law_968 ?_
  refine x_aload_n (pc := 969) C 0 dL_law_969 rfl ?_
  refine x_iload_n (pc := 970) C 3 dL_law_970 rfl ?_
  refine x_iconst (pc := 971) (v := nI 3) C dL_law_971 (by decide) ?_
  refine x_iadd (pc := 972) C dL_law_972 ?_
  refine x_eq (show nI i + nI 3 = nI (i + 3) from nI_add _ _) ?_
  refine x_sld (pc := 973) C hX (i := i + 3) (by omega) hN dL_law_973 ?_
  refine x_callVJ (pc := 974) C E (xOut_P hap) [.int (xs (i + 1)), .int (xs (i + 2)), .int (xs (i + 3))] [] (c_X11_sheet t h1 _ _ _) m_X11_sheet q46_10 xo_main rfl (by omega) (Nat.le_of_ble_eq_true rfl) dL_law_974 rfl (fun r M1 hc1 => ?_)
  obtain ⟨rfl, hR1⟩ := hc1
  show XV κ _ 977 _ [.int (o_sheet σ (xs (i + 1)) (xs (i + 2)) (xs (i + 3))).2]
  refine x_I (I' := fun H => xP (wR t') M' H ∧ xP (wC t) M1 H) (fun H h => ⟨h.2, h.1⟩) ?_
  refine x_aload_n (pc := 977) C 2 dL_law_977 rfl ?_
  refine x_aload_n (pc := 978) C 0 dL_law_978 rfl ?_
  refine x_iload_n (pc := 979) C 3 dL_law_979 rfl ?_
  refine x_iconst (pc := 980) (v := nI 1) C dL_law_980 (by decide) ?_
  refine x_iadd (pc := 981) C dL_law_981 ?_
  refine x_eq (show nI i + nI 1 = nI (i + 1) from nI_add _ _) ?_
  refine x_sld (pc := 982) C hX (i := i + 1) (by omega) hN dL_law_982 ?_
  refine x_aload_n (pc := 983) C 0 dL_law_983 rfl ?_
  refine x_iload_n (pc := 984) C 3 dL_law_984 rfl ?_
  refine x_iconst (pc := 985) (v := nI 2) C dL_law_985 (by decide) ?_
  refine x_iadd (pc := 986) C dL_law_986 ?_
  refine x_eq (show nI i + nI 2 = nI (i + 2) from nI_add _ _) ?_
  refine x_sld (pc := 987) C hX (i := i + 2) (by omega) hN dL_law_987 ?_
  refine x_aload_n (pc := 988) C 0 dL_law_988 rfl ?_
  refine x_iload_n (pc := 989) C 3 dL_law_989 rfl ?_
  refine x_iconst (pc := 990) (v := nI 3) C dL_law_990 (by decide) ?_
  refine x_iadd (pc := 991) C dL_law_991 ?_
  refine x_eq (show nI i + nI 3 = nI (i + 3) from nI_add _ _) ?_
  refine x_sld (pc := 992) C hX (i := i + 3) (by omega) hN dL_law_992 ?_
  refine x_callVJ (pc := 993) C E' (xOut_P (fun q h1 h2 => hap q h2 h1)) [.int (xs (i + 1)), .int (xs (i + 2)), .int (xs (i + 3))] [.int (o_sheet σ (xs (i + 1)) (xs (i + 2)) (xs (i + 3))).2] (c_X12_sheet t' h2 hg _ _ _) m_X12_sheet q46_14 xo_M rfl (by omega) (Nat.le_of_ble_eq_true rfl) dL_law_993 rfl (fun r M2 hc2 => ?_)
  obtain ⟨rfl, hR2, hg2⟩ := hc2
  show XV κ _ 996 _ [.int (o_sheet σ (xs (i + 1)) (xs (i + 2)) (xs (i + 3))).2, .int (o_sheet σ (xs (i + 1)) (xs (i + 2)) (xs (i + 3))).2]
  refine x_icmp_eq_t (pc := 996) C 1193 dL_law_996 (by decide) rfl ?_
  exact x_I (fun H h => ⟨M1, M2, h.2, h.1, hR1, hR2, hg2, (cok_sheet hc _ _ _)⟩) (K _)
set_option maxRecDepth 100000 in
set_option maxHeartbeats 4000000 in
theorem lw_case28 {κ : XK} {t t' : CT} {d b N : Nat} {xs : Nat → Int32} {i : Nat} {σ : SV} (C : XC κ RL cL_law 4 d) (hd : 90 ≤ d) (E : XE κ (wC t)) (E' : XE κ (wR t')) (hap : ∀ q, xA (wC t) q → ¬ xA (wR t') q) (hX : xSc κ b N xs) (hi : i + 6 ≤ N) (hN : N ≤ 3072) (K : ∀ σ' : SV, XV κ (LIn t t' σ') 1193 [(0, .ref b), (1, .ref (t.1 0)), (2, .ref (t'.1 0)), (3, .int (nI i))] []) : XV κ (LIn t t' σ) 1001 [(0, .ref b), (1, .ref (t.1 0)), (2, .ref (t'.1 0)), (3, .int (nI i))] [] := by
  refine x_open (fun M M' h1 h2 hg hc => ?_)
  refine x_aload_n (pc := 1001) C 1 dL_law_1001 rfl ?_
  refine x_aload_n (pc := 1002) C 0 dL_law_1002 rfl ?_
  refine x_iload_n (pc := 1003) C 3 dL_law_1003 rfl ?_
  refine x_iconst (pc := 1004) (v := nI 1) C dL_law_1004 (by decide) ?_
  refine x_iadd (pc := 1005) C dL_law_1005 ?_
  refine x_eq (show nI i + nI 1 = nI (i + 1) from nI_add _ _) ?_
  refine x_sld (pc := 1006) C hX (i := i + 1) (by omega) hN dL_law_1006 ?_
  refine x_aload_n (pc := 1007) C 0 dL_law_1007 rfl ?_
  refine x_iload_n (pc := 1008) C 3 dL_law_1008 rfl ?_
  refine x_iconst (pc := 1009) (v := nI 2) C dL_law_1009 (by decide) ?_
  refine x_iadd (pc := 1010) C dL_law_1010 ?_
  refine x_eq (show nI i + nI 2 = nI (i + 2) from nI_add _ _) ?_
  refine x_sld (pc := 1011) C hX (i := i + 2) (by omega) hN dL_law_1011 ?_
  refine x_aload_n (pc := 1012) C 0 dL_law_1012 rfl ?_
  refine x_iload_n (pc := 1013) C 3 dL_law_1013 rfl ?_
  refine x_iconst (pc := 1014) (v := nI 3) C dL_law_1014 (by decide) ?_
  refine x_iadd (pc := 1015) C dL_law_1015 ?_
  refine x_eq (show nI i + nI 3 = nI (i + 3) from nI_add _ _) ?_
  refine x_sld (pc := 1016) C hX (i := i + 3) (by omega) hN dL_law_1016 ?_
  refine x_callVJ (pc := 1017) C E (xOut_P hap) [.int (xs (i + 1)), .int (xs (i + 2)), .int (xs (i + 3))] [] (c_X11_cell t h1 _ _ _) m_X11_cell q46_15 xo_main rfl (by omega) (Nat.le_of_ble_eq_true rfl) dL_law_1017 rfl (fun r M1 hc1 => ?_)
  obtain ⟨rfl, hR1⟩ := hc1
  show XV κ _ 1020 _ [.int (o_cell σ (xs (i + 1)) (xs (i + 2)) (xs (i + 3))).2]
  refine x_I (I' := fun H => xP (wR t') M' H ∧ xP (wC t) M1 H) (fun H h => ⟨h.2, h.1⟩) ?_
  refine x_aload_n (pc := 1020) C 2 dL_law_1020 rfl ?_
  refine x_aload_n (pc := 1021) C 0 dL_law_1021 rfl ?_
  refine x_iload_n (pc := 1022) C 3 dL_law_1022 rfl ?_
  refine x_iconst (pc := 1023) (v := nI 1) C dL_law_1023 (by decide) ?_
  refine x_iadd (pc := 1024) C dL_law_1024 ?_
  refine x_eq (show nI i + nI 1 = nI (i + 1) from nI_add _ _) ?_
  refine x_sld (pc := 1025) C hX (i := i + 1) (by omega) hN dL_law_1025 ?_
  refine x_aload_n (pc := 1026) C 0 dL_law_1026 rfl ?_
  refine x_iload_n (pc := 1027) C 3 dL_law_1027 rfl ?_
  refine x_iconst (pc := 1028) (v := nI 2) C dL_law_1028 (by decide) ?_
  refine x_iadd (pc := 1029) C dL_law_1029 ?_
  refine x_eq (show nI i + nI 2 = nI (i + 2) from nI_add _ _) ?_
  refine x_sld (pc := 1030) C hX (i := i + 2) (by omega) hN dL_law_1030 ?_
  refine x_aload_n (pc := 1031) C 0 dL_law_1031 rfl ?_
  refine x_iload_n (pc := 1032) C 3 dL_law_1032 rfl ?_
  refine x_iconst (pc := 1033) (v := nI 3) C dL_law_1033 (by decide) ?_
  refine x_iadd (pc := 1034) C dL_law_1034 ?_
  refine x_eq (show nI i + nI 3 = nI (i + 3) from nI_add _ _) ?_
  refine x_sld (pc := 1035) C hX (i := i + 3) (by omega) hN dL_law_1035 ?_
  refine x_callVJ (pc := 1036) C E' (xOut_P (fun q h1 h2 => hap q h2 h1)) [.int (xs (i + 1)), .int (xs (i + 2)), .int (xs (i + 3))] [.int (o_cell σ (xs (i + 1)) (xs (i + 2)) (xs (i + 3))).2] (c_X12_cell t' h2 hg _ _ _) m_X12_cell q46_23 xo_M rfl (by omega) (Nat.le_of_ble_eq_true rfl) dL_law_1036 rfl (fun r M2 hc2 => ?_)
  obtain ⟨rfl, hR2, hg2⟩ := hc2
  show XV κ _ 1039 _ [.int (o_cell σ (xs (i + 1)) (xs (i + 2)) (xs (i + 3))).2, .int (o_cell σ (xs (i + 1)) (xs (i + 2)) (xs (i + 3))).2]
  refine x_icmp_eq_t (pc := 1039) C 1193 dL_law_1039 (by decide) rfl ?_
  exact x_I (fun H h => ⟨M1, M2, h.2, h.1, hR1, hR2, hg2, (cok_cell hc _ _ _)⟩) (K _)
set_option maxRecDepth 100000 in
set_option maxHeartbeats 4000000 in
theorem lw_case29 {κ : XK} {t t' : CT} {d b N : Nat} {xs : Nat → Int32} {i : Nat} {σ : SV} (C : XC κ RL cL_law 4 d) (hd : 90 ≤ d) (E : XE κ (wC t)) (E' : XE κ (wR t')) (hap : ∀ q, xA (wC t) q → ¬ xA (wR t') q) (hX : xSc κ b N xs) (hi : i + 6 ≤ N) (hN : N ≤ 3072) (K : ∀ σ' : SV, XV κ (LIn t t' σ') 1193 [(0, .ref b), (1, .ref (t.1 0)), (2, .ref (t'.1 0)), (3, .int (nI i))] []) : XV κ (LIn t t' σ) 1044 [(0, .ref b), (1, .ref (t.1 0)), (2, .ref (t'.1 0)), (3, .int (nI i))] [] := by
  refine x_open (fun M M' h1 h2 hg hc => ?_)
  refine x_aload_n (pc := 1044) C 1 dL_law_1044 rfl ?_
  refine x_aload_n (pc := 1045) C 0 dL_law_1045 rfl ?_
  refine x_iload_n (pc := 1046) C 3 dL_law_1046 rfl ?_
  refine x_iconst (pc := 1047) (v := nI 1) C dL_law_1047 (by decide) ?_
  refine x_iadd (pc := 1048) C dL_law_1048 ?_
  refine x_eq (show nI i + nI 1 = nI (i + 1) from nI_add _ _) ?_
  refine x_sld (pc := 1049) C hX (i := i + 1) (by omega) hN dL_law_1049 ?_
  refine x_aload_n (pc := 1050) C 0 dL_law_1050 rfl ?_
  refine x_iload_n (pc := 1051) C 3 dL_law_1051 rfl ?_
  refine x_iconst (pc := 1052) (v := nI 2) C dL_law_1052 (by decide) ?_
  refine x_iadd (pc := 1053) C dL_law_1053 ?_
  refine x_eq (show nI i + nI 2 = nI (i + 2) from nI_add _ _) ?_
  refine x_sld (pc := 1054) C hX (i := i + 2) (by omega) hN dL_law_1054 ?_
  refine x_aload_n (pc := 1055) C 0 dL_law_1055 rfl ?_
  refine x_iload_n (pc := 1056) C 3 dL_law_1056 rfl ?_
  refine x_iconst (pc := 1057) (v := nI 3) C dL_law_1057 (by decide) ?_
  refine x_iadd (pc := 1058) C dL_law_1058 ?_
  refine x_eq (show nI i + nI 3 = nI (i + 3) from nI_add _ _) ?_
  refine x_sld (pc := 1059) C hX (i := i + 3) (by omega) hN dL_law_1059 ?_
  refine x_aload_n (pc := 1060) C 0 dL_law_1060 rfl ?_
  refine x_iload_n (pc := 1061) C 3 dL_law_1061 rfl ?_
  refine x_iconst (pc := 1062) (v := nI 4) C dL_law_1062 (by decide) ?_
  refine x_iadd (pc := 1063) C dL_law_1063 ?_
  refine x_eq (show nI i + nI 4 = nI (i + 4) from nI_add _ _) ?_
  refine x_sld (pc := 1064) C hX (i := i + 4) (by omega) hN dL_law_1064 ?_
  refine x_aload_n (pc := 1065) C 0 dL_law_1065 rfl ?_
  refine x_iload_n (pc := 1066) C 3 dL_law_1066 rfl ?_
  refine x_iconst (pc := 1067) (v := nI 5) C dL_law_1067 (by decide) ?_
  refine x_iadd (pc := 1068) C dL_law_1068 ?_
  refine x_eq (show nI i + nI 5 = nI (i + 5) from nI_add _ _) ?_
  refine x_sld (pc := 1069) C hX (i := i + 5) (by omega) hN dL_law_1069 ?_
  refine x_callVJ (pc := 1070) C E (xOut_P hap) [.int (xs (i + 1)), .int (xs (i + 2)), .int (xs (i + 3)), .int (xs (i + 4)), .int (xs (i + 5))] [] (c_X11_copy t h1 _ _ _ _ _) m_X11_copy q47_3 xo_main rfl (by omega) (Nat.le_of_ble_eq_true rfl) dL_law_1070 rfl (fun r M1 hc1 => ?_)
  obtain ⟨rfl, hR1⟩ := hc1
  show XV κ _ 1073 _ [.int (o_copy σ (xs (i + 1)) (xs (i + 2)) (xs (i + 3)) (xs (i + 4)) (xs (i + 5))).2]
  refine x_I (I' := fun H => xP (wR t') M' H ∧ xP (wC t) M1 H) (fun H h => ⟨h.2, h.1⟩) ?_
  refine x_aload_n (pc := 1073) C 2 dL_law_1073 rfl ?_
  refine x_aload_n (pc := 1074) C 0 dL_law_1074 rfl ?_
  refine x_iload_n (pc := 1075) C 3 dL_law_1075 rfl ?_
  refine x_iconst (pc := 1076) (v := nI 1) C dL_law_1076 (by decide) ?_
  refine x_iadd (pc := 1077) C dL_law_1077 ?_
  refine x_eq (show nI i + nI 1 = nI (i + 1) from nI_add _ _) ?_
  refine x_sld (pc := 1078) C hX (i := i + 1) (by omega) hN dL_law_1078 ?_
  refine x_aload_n (pc := 1079) C 0 dL_law_1079 rfl ?_
  refine x_iload_n (pc := 1080) C 3 dL_law_1080 rfl ?_
  refine x_iconst (pc := 1081) (v := nI 2) C dL_law_1081 (by decide) ?_
  refine x_iadd (pc := 1082) C dL_law_1082 ?_
  refine x_eq (show nI i + nI 2 = nI (i + 2) from nI_add _ _) ?_
  refine x_sld (pc := 1083) C hX (i := i + 2) (by omega) hN dL_law_1083 ?_
  refine x_aload_n (pc := 1084) C 0 dL_law_1084 rfl ?_
  refine x_iload_n (pc := 1085) C 3 dL_law_1085 rfl ?_
  refine x_iconst (pc := 1086) (v := nI 3) C dL_law_1086 (by decide) ?_
  refine x_iadd (pc := 1087) C dL_law_1087 ?_
  refine x_eq (show nI i + nI 3 = nI (i + 3) from nI_add _ _) ?_
  refine x_sld (pc := 1088) C hX (i := i + 3) (by omega) hN dL_law_1088 ?_
  refine x_aload_n (pc := 1089) C 0 dL_law_1089 rfl ?_
  refine x_iload_n (pc := 1090) C 3 dL_law_1090 rfl ?_
  refine x_iconst (pc := 1091) (v := nI 4) C dL_law_1091 (by decide) ?_
  refine x_iadd (pc := 1092) C dL_law_1092 ?_
  refine x_eq (show nI i + nI 4 = nI (i + 4) from nI_add _ _) ?_
  refine x_sld (pc := 1093) C hX (i := i + 4) (by omega) hN dL_law_1093 ?_
  refine x_aload_n (pc := 1094) C 0 dL_law_1094 rfl ?_
  refine x_iload_n (pc := 1095) C 3 dL_law_1095 rfl ?_
  refine x_iconst (pc := 1096) (v := nI 5) C dL_law_1096 (by decide) ?_
  refine x_iadd (pc := 1097) C dL_law_1097 ?_
  refine x_eq (show nI i + nI 5 = nI (i + 5) from nI_add _ _) ?_
  refine x_sld (pc := 1098) C hX (i := i + 5) (by omega) hN dL_law_1098 ?_
  refine x_callVJ (pc := 1099) C E' (xOut_P (fun q h1 h2 => hap q h2 h1)) [.int (xs (i + 1)), .int (xs (i + 2)), .int (xs (i + 3)), .int (xs (i + 4)), .int (xs (i + 5))] [.int (o_copy σ (xs (i + 1)) (xs (i + 2)) (xs (i + 3)) (xs (i + 4)) (xs (i + 5))).2] (c_X12_copy t' h2 hg _ _ _ _ _) m_X12_copy q47_13 xo_M rfl (by omega) (Nat.le_of_ble_eq_true rfl) dL_law_1099 rfl (fun r M2 hc2 => ?_)
  obtain ⟨rfl, hR2, hg2⟩ := hc2
  show XV κ _ 1102 _ [.int (o_copy σ (xs (i + 1)) (xs (i + 2)) (xs (i + 3)) (xs (i + 4)) (xs (i + 5))).2, .int (o_copy σ (xs (i + 1)) (xs (i + 2)) (xs (i + 3)) (xs (i + 4)) (xs (i + 5))).2]
  refine x_icmp_eq_t (pc := 1102) C 1193 dL_law_1102 (by decide) rfl ?_
  exact x_I (fun H h => ⟨M1, M2, h.2, h.1, hR1, hR2, hg2, (cok_copy hc _ _ _ _ _)⟩) (K _)
set_option maxRecDepth 100000 in
set_option maxHeartbeats 4000000 in
theorem lw_case30 {κ : XK} {t t' : CT} {d b N : Nat} {xs : Nat → Int32} {i : Nat} {σ : SV} (C : XC κ RL cL_law 4 d) (hd : 90 ≤ d) (E : XE κ (wC t)) (E' : XE κ (wR t')) (hap : ∀ q, xA (wC t) q → ¬ xA (wR t') q) (hX : xSc κ b N xs) (hi : i + 6 ≤ N) (hN : N ≤ 3072) (K : ∀ σ' : SV, XV κ (LIn t t' σ') 1193 [(0, .ref b), (1, .ref (t.1 0)), (2, .ref (t'.1 0)), (3, .int (nI i))] []) : XV κ (LIn t t' σ) 1107 [(0, .ref b), (1, .ref (t.1 0)), (2, .ref (t'.1 0)), (3, .int (nI i))] [] := by
  refine x_open (fun M M' h1 h2 hg hc => ?_)
  refine x_aload_n (pc := 1107) C 1 dL_law_1107 rfl ?_
  refine x_aload_n (pc := 1108) C 0 dL_law_1108 rfl ?_
  refine x_iload_n (pc := 1109) C 3 dL_law_1109 rfl ?_
  refine x_iconst (pc := 1110) (v := nI 1) C dL_law_1110 (by decide) ?_
  refine x_iadd (pc := 1111) C dL_law_1111 ?_
  refine x_eq (show nI i + nI 1 = nI (i + 1) from nI_add _ _) ?_
  refine x_sld (pc := 1112) C hX (i := i + 1) (by omega) hN dL_law_1112 ?_
  refine x_aload_n (pc := 1113) C 0 dL_law_1113 rfl ?_
  refine x_iload_n (pc := 1114) C 3 dL_law_1114 rfl ?_
  refine x_iconst (pc := 1115) (v := nI 2) C dL_law_1115 (by decide) ?_
  refine x_iadd (pc := 1116) C dL_law_1116 ?_
  refine x_eq (show nI i + nI 2 = nI (i + 2) from nI_add _ _) ?_
  refine x_sld (pc := 1117) C hX (i := i + 2) (by omega) hN dL_law_1117 ?_
  refine x_aload_n (pc := 1118) C 0 dL_law_1118 rfl ?_
  refine x_iload_n (pc := 1119) C 3 dL_law_1119 rfl ?_
  refine x_iconst (pc := 1120) (v := nI 3) C dL_law_1120 (by decide) ?_
  refine x_iadd (pc := 1121) C dL_law_1121 ?_
  refine x_eq (show nI i + nI 3 = nI (i + 3) from nI_add _ _) ?_
  refine x_sld (pc := 1122) C hX (i := i + 3) (by omega) hN dL_law_1122 ?_
  refine x_aload_n (pc := 1123) C 0 dL_law_1123 rfl ?_
  refine x_iload_n (pc := 1124) C 3 dL_law_1124 rfl ?_
  refine x_iconst (pc := 1125) (v := nI 4) C dL_law_1125 (by decide) ?_
  refine x_iadd (pc := 1126) C dL_law_1126 ?_
  refine x_eq (show nI i + nI 4 = nI (i + 4) from nI_add _ _) ?_
  refine x_sld (pc := 1127) C hX (i := i + 4) (by omega) hN dL_law_1127 ?_
  refine x_callVJ (pc := 1128) C E (xOut_P hap) [.int (xs (i + 1)), .int (xs (i + 2)), .int (xs (i + 3)), .int (xs (i + 4))] [] (c_X11_disks t h1 _ _ _ _) m_X11_disks q47_17 xo_main rfl (by omega) (Nat.le_of_ble_eq_true rfl) dL_law_1128 rfl (fun r M1 hc1 => ?_)
  obtain ⟨rfl, hR1⟩ := hc1
  show XV κ _ 1131 _ [.int (o_disks σ (xs (i + 1)) (xs (i + 2)) (xs (i + 3)) (xs (i + 4))).2]
  refine x_I (I' := fun H => xP (wR t') M' H ∧ xP (wC t) M1 H) (fun H h => ⟨h.2, h.1⟩) ?_
  refine x_aload_n (pc := 1131) C 2 dL_law_1131 rfl ?_
  refine x_aload_n (pc := 1132) C 0 dL_law_1132 rfl ?_
  refine x_iload_n (pc := 1133) C 3 dL_law_1133 rfl ?_
  refine x_iconst (pc := 1134) (v := nI 1) C dL_law_1134 (by decide) ?_
  refine x_iadd (pc := 1135) C dL_law_1135 ?_
  refine x_eq (show nI i + nI 1 = nI (i + 1) from nI_add _ _) ?_
  refine x_sld (pc := 1136) C hX (i := i + 1) (by omega) hN dL_law_1136 ?_
  refine x_aload_n (pc := 1137) C 0 dL_law_1137 rfl ?_
  refine x_iload_n (pc := 1138) C 3 dL_law_1138 rfl ?_
  refine x_iconst (pc := 1139) (v := nI 2) C dL_law_1139 (by decide) ?_
  refine x_iadd (pc := 1140) C dL_law_1140 ?_
  refine x_eq (show nI i + nI 2 = nI (i + 2) from nI_add _ _) ?_
  refine x_sld (pc := 1141) C hX (i := i + 2) (by omega) hN dL_law_1141 ?_
  refine x_aload_n (pc := 1142) C 0 dL_law_1142 rfl ?_
  refine x_iload_n (pc := 1143) C 3 dL_law_1143 rfl ?_
  refine x_iconst (pc := 1144) (v := nI 3) C dL_law_1144 (by decide) ?_
  refine x_iadd (pc := 1145) C dL_law_1145 ?_
  refine x_eq (show nI i + nI 3 = nI (i + 3) from nI_add _ _) ?_
  refine x_sld (pc := 1146) C hX (i := i + 3) (by omega) hN dL_law_1146 ?_
  refine x_aload_n (pc := 1147) C 0 dL_law_1147 rfl ?_
  refine x_iload_n (pc := 1148) C 3 dL_law_1148 rfl ?_
  refine x_iconst (pc := 1149) (v := nI 4) C dL_law_1149 (by decide) ?_
  refine x_iadd (pc := 1150) C dL_law_1150 ?_
  refine x_eq (show nI i + nI 4 = nI (i + 4) from nI_add _ _) ?_
  refine x_sld (pc := 1151) C hX (i := i + 4) (by omega) hN dL_law_1151 ?_
  refine x_callVJ (pc := 1152) C E' (xOut_P (fun q h1 h2 => hap q h2 h1)) [.int (xs (i + 1)), .int (xs (i + 2)), .int (xs (i + 3)), .int (xs (i + 4))] [.int (o_disks σ (xs (i + 1)) (xs (i + 2)) (xs (i + 3)) (xs (i + 4))).2] (c_X12_disks t' h2 hg _ _ _ _) m_X12_disks q47_21 xo_M rfl (by omega) (Nat.le_of_ble_eq_true rfl) dL_law_1152 rfl (fun r M2 hc2 => ?_)
  obtain ⟨rfl, hR2, hg2⟩ := hc2
  show XV κ _ 1155 _ [.int (o_disks σ (xs (i + 1)) (xs (i + 2)) (xs (i + 3)) (xs (i + 4))).2, .int (o_disks σ (xs (i + 1)) (xs (i + 2)) (xs (i + 3)) (xs (i + 4))).2]
  refine x_icmp_eq_t (pc := 1155) C 1193 dL_law_1155 (by decide) rfl ?_
  exact x_I (fun H h => ⟨M1, M2, h.2, h.1, hR1, hR2, hg2, (cok_disks hc _ _ _ _)⟩) (K _)
set_option maxRecDepth 100000 in
set_option maxHeartbeats 4000000 in
theorem lw_case31 {κ : XK} {t t' : CT} {d b N : Nat} {xs : Nat → Int32} {i : Nat} {σ : SV} (C : XC κ RL cL_law 4 d) (hd : 90 ≤ d) (E : XE κ (wC t)) (E' : XE κ (wR t')) (hap : ∀ q, xA (wC t) q → ¬ xA (wR t') q) (hX : xSc κ b N xs) (hi : i + 6 ≤ N) (hN : N ≤ 3072) (hu : ∀ (U : State) (H : Heap), t.2.2.2 U H → iuF U) (K : ∀ σ' : SV, XV κ (LIn t t' σ') 1193 [(0, .ref b), (1, .ref (t.1 0)), (2, .ref (t'.1 0)), (3, .int (nI i))] []) : XV κ (LIn t t' σ) 1160 [(0, .ref b), (1, .ref (t.1 0)), (2, .ref (t'.1 0)), (3, .int (nI i))] [] := by
  refine x_open (fun M M' h1 h2 hg hc => ?_)
  refine x_aload_n (pc := 1160) C 1 dL_law_1160 rfl ?_
  refine x_aload_n (pc := 1161) C 0 dL_law_1161 rfl ?_
  refine x_iload_n (pc := 1162) C 3 dL_law_1162 rfl ?_
  refine x_iconst (pc := 1163) (v := nI 1) C dL_law_1163 (by decide) ?_
  refine x_iadd (pc := 1164) C dL_law_1164 ?_
  refine x_eq (show nI i + nI 1 = nI (i + 1) from nI_add _ _) ?_
  refine x_sld (pc := 1165) C hX (i := i + 1) (by omega) hN dL_law_1165 ?_
  refine x_aload_n (pc := 1166) C 0 dL_law_1166 rfl ?_
  refine x_iload_n (pc := 1167) C 3 dL_law_1167 rfl ?_
  refine x_iconst (pc := 1168) (v := nI 2) C dL_law_1168 (by decide) ?_
  refine x_iadd (pc := 1169) C dL_law_1169 ?_
  refine x_eq (show nI i + nI 2 = nI (i + 2) from nI_add _ _) ?_
  refine x_sld (pc := 1170) C hX (i := i + 2) (by omega) hN dL_law_1170 ?_
  refine x_callVJ (pc := 1171) C E (xOut_P hap) [.int (xs (i + 1)), .int (xs (i + 2))] [] (c_X11_taken t h1 hu _ _) m_X11_taken q48_2 xo_main rfl (by omega) (Nat.le_of_ble_eq_true rfl) dL_law_1171 rfl (fun r M1 hc1 => ?_)
  obtain ⟨rfl, hR1⟩ := hc1
  show XV κ _ 1174 _ [.int (a_taken σ (xs (i + 1)) (xs (i + 2)))]
  refine x_I (I' := fun H => xP (wR t') M' H ∧ xP (wC t) M1 H) (fun H h => ⟨h.2, h.1⟩) ?_
  refine x_aload_n (pc := 1174) C 2 dL_law_1174 rfl ?_
  refine x_aload_n (pc := 1175) C 0 dL_law_1175 rfl ?_
  refine x_iload_n (pc := 1176) C 3 dL_law_1176 rfl ?_
  refine x_iconst (pc := 1177) (v := nI 1) C dL_law_1177 (by decide) ?_
  refine x_iadd (pc := 1178) C dL_law_1178 ?_
  refine x_eq (show nI i + nI 1 = nI (i + 1) from nI_add _ _) ?_
  refine x_sld (pc := 1179) C hX (i := i + 1) (by omega) hN dL_law_1179 ?_
  refine x_aload_n (pc := 1180) C 0 dL_law_1180 rfl ?_
  refine x_iload_n (pc := 1181) C 3 dL_law_1181 rfl ?_
  refine x_iconst (pc := 1182) (v := nI 2) C dL_law_1182 (by decide) ?_
  refine x_iadd (pc := 1183) C dL_law_1183 ?_
  refine x_eq (show nI i + nI 2 = nI (i + 2) from nI_add _ _) ?_
  refine x_sld (pc := 1184) C hX (i := i + 2) (by omega) hN dL_law_1184 ?_
  refine x_callVJ (pc := 1185) C E' (xOut_P (fun q h1 h2 => hap q h2 h1)) [.int (xs (i + 1)), .int (xs (i + 2))] [.int (a_taken σ (xs (i + 1)) (xs (i + 2)))] (c_X12_taken t' h2 hg _ _) m_X12_taken q48_14 xo_M rfl (by omega) (Nat.le_of_ble_eq_true rfl) dL_law_1185 rfl (fun r M2 hc2 => ?_)
  obtain ⟨rfl, hR2, hg2⟩ := hc2
  show XV κ _ 1188 _ [.int (a_taken σ (xs (i + 1)) (xs (i + 2))), .int (a_taken σ (xs (i + 1)) (xs (i + 2)))]
  refine x_icmp_eq_t (pc := 1188) C 1193 dL_law_1188 (by decide) rfl ?_
  exact x_I (fun H h => ⟨M1, M2, h.2, h.1, hR1, hR2, hg2, hc⟩) (K _)
