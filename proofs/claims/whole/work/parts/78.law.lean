/-! ===== the law's own rows ===== -/
def SX : KT → Nat → Nat → (Nat → Int32) → Prop
  | ((_, _, _, s, _, _, _, _, _), _, _, A), b, L, xs => va_X b L xs s s.heap ∧ b < s.heap.size ∧ ¬ A b
section GR
variable {l : Launch} {w : WD} {K : KT} {cc : ByteArray} {own : String} {nl d mc ms pc : Nat} {lv : List (Nat × Value)} {st : List Value} {σ : SG}
theorem g_sld {b L : Nat} {xs : Nat → Int32} {i : Int32} (C : OK l w K cc nl own d mc ms) (hX : SX K b L xs) (hin : vp_in i L) (hd : decode cc pc = .ok (.iaload, 1)) (k : G l w K (pc + 1) lv (.int (xs i.toNatClampNeg) :: st) σ) : G l w K pc lv (.int i :: .ref b :: st) σ := by
  obtain ⟨⟨p, e, R, s, m, args, below, meth, c⟩, ⟨nL, cells, slots⟩, Q, A⟩ := K
  obtain ⟨⟨hx, hb, hml, hown, hts⟩, hK, hj, hA, hST, hlk, hR, hn, hmc, hms⟩ := C
  obtain ⟨h1, h2, h3⟩ := hX
  intro H ls locs hl hP hS
  exact va_sld hx hb h1 h2 h3 hS hin hd (k H ls locs hl hP hS)
theorem g_slen {b L : Nat} {xs : Nat → Int32} (C : OK l w K cc nl own d mc ms) (hX : SX K b L xs) (hd : decode cc pc = .ok (.arraylength, 1)) (k : G l w K (pc + 1) lv (.int (Int32.ofNat L) :: st) σ) : G l w K pc lv (.ref b :: st) σ := by
  obtain ⟨⟨p, e, R, s, m, args, below, meth, c⟩, ⟨nL, cells, slots⟩, Q, A⟩ := K
  obtain ⟨⟨hx, hb, hml, hown, hts⟩, hK, hj, hA, hST, hlk, hR, hn, hmc, hms⟩ := C
  obtain ⟨h1, h2, h3⟩ := hX
  intro H ls locs hl hP hS
  exact va_slen hx hb h1 h2 h3 hS hd (k H ls locs hl hP hS)
theorem g_callVI2 {y : MethodName} {bytes : ByteArray} {maxL n idx ci d' k0 mc' ms' : Nat} {ret : Option FieldType} {As rest stk fs : List Value} {post : Int32 → SG → Prop} (C : OK l w K cc nl own d mc ms) (hm : MV own idx y bytes maxL ret n ci) (ct : CtI l w y bytes maxL ret d' mc' ms' (.ref (wA w k0) :: As) σ post) (h1 : K.2.1.2.1 + mc' ≤ mc) (h2 : K.2.1.2.2 + ms' ≤ ms) (hk : k0 < wN w) (he : shp w k0 (σ k0) = .inr (ci, fs)) (hAs : As.length = n) (hd' : d' + 1 ≤ d) (hst : stk = As.reverse ++ .ref (wA w k0) :: rest) (hcat : (rest.map fun v => v.category).sum ≤ 8) (hd : decode cc pc = .ok (.invokevirtual idx, 3)) (k : ∀ (K' : KT), K'.1 = K.1 → K'.2.2 = K.2.2 → K'.2.1 = (K.2.1.1, K.2.1.2.1 + mc', K.2.1.2.2 + ms') → ∀ (r : Int32) (τ : SG), post r τ → G l w K' (pc + 3) lv (.int r :: rest) τ) : G l w K pc lv stk σ := by
  obtain ⟨⟨p, e, R, s, m, args, below, meth, c⟩, ⟨nL, cells, slots⟩, Q, A⟩ := K
  obtain ⟨⟨hx, hb, hml, hown, hts⟩, hK, hj, hA, hST, hlk, hR, hn, hmc, hms⟩ := C
  subst hst
  intro H ls locs hl hP hS
  have hT := hm.2.2.2.2.2.2.2
  obtain ⟨T, Nf, hT⟩ := hT
  have hF := pA_sub hj hA hS
  have h1' : cells + mc' ≤ mc := h1
  have h2' : slots + ms' ≤ ms := h2
  refine va_calli (A1 := pA w H.size) (va_runV (As := As) (rest := rest) (C := y.cls) (b := wA w k0) ⟨hx, hb, hml, hown, hts⟩ (ct H.size) (mv_w hm hts hR hd') ⟨Pin.blind, va_recv hK hP hT (pw_a hk he), fun U hU hW => ⟨rfl, Pin.of hK hj hA hST hP hS hU hW⟩⟩ rfl hAs hl.1 rfl (lv_room hcat) hd ⟨?_, ?_⟩) hS (fun q _ h => hF q h) hF (fun r τ t H1 locs1 ht hvm hw hB hz1 hk1 hS1 => by subst ht; exact k ((p, e, R, s, m, args, below, meth, c), (nL, cells + mc', slots + ms'), Q, A) rfl rfl rfl r τ hw _ ls locs1 hl hB hS1)
  · subst hR; exact h1'
  · subst hR; exact h2'
theorem g_wide {K' : KT} (e1 : K'.1 = K.1) (e2 : K'.2.2 = K.2.2) (e3 : K'.2.1.1 = K.2.1.1) (h1 : K.2.1.2.1 ≤ K'.2.1.2.1) (h2 : K.2.1.2.2 ≤ K'.2.1.2.2) (k : G l w K' pc lv st σ) : G l w K pc lv st σ := by
  obtain ⟨⟨p, e, R, s, m, args, below, meth, c⟩, ⟨nL, cells, slots⟩, Q, A⟩ := K
  obtain ⟨⟨p', e', R', s', m', args', below', meth', c'⟩, ⟨nL', cells', slots'⟩, Q', A'⟩ := K'
  cases e1
  cases e2
  cases e3
  intro H ls locs hl hP hS
  exact W.widen h1 h2 (k H ls locs hl hP hS)
theorem OK.move {K' : KT} (C : OK l w K cc nl own d mc ms) (e1 : K'.1 = K.1) (e2 : K'.2.2 = K.2.2) (e3 : K'.2.1.1 = K.2.1.1) (h1 : K'.2.1.2.1 ≤ mc) (h2 : K'.2.1.2.2 ≤ ms) : OK l w K' cc nl own d mc ms := by
  obtain ⟨⟨p, e, R, s, m, args, below, meth, c⟩, ⟨nL, cells, slots⟩, Q, A⟩ := K
  obtain ⟨⟨p', e', R', s', m', args', below', meth', c'⟩, ⟨nL', cells', slots'⟩, Q', A'⟩ := K'
  cases e1
  cases e2
  cases e3
  obtain ⟨C1, hK, hj, hA, hST, hlk, hR, hn, hmc, hms⟩ := C
  exact ⟨C1, hK, hj, hA, hST, hlk, hR, hn, h1, h2⟩
theorem SX.move {K' : KT} {b L : Nat} {xs : Nat → Int32} (C : SX K b L xs) (e1 : K'.1 = K.1) (e2 : K'.2.2 = K.2.2) : SX K' b L xs := by
  obtain ⟨⟨p, e, R, s, m, args, below, meth, c⟩, ⟨nL, cells, slots⟩, Q, A⟩ := K
  obtain ⟨⟨p', e', R', s', m', args', below', meth', c'⟩, ⟨nL', cells', slots'⟩, Q', A'⟩ := K'
  cases e1
  cases e2
  exact C
end GR
theorem lw_cmp (x : Int64) : lg_cmp x x = 0 := by
  unfold lg_cmp
  have h : ¬ (x > x) := Int64.lt_irrefl
  rw [if_neg h, if_pos rfl]
/-! ===== the other's cells have not changed ===== -/
theorem CX.oth {σ τ : SG} {A : AS} (h : CX σ A) (hf : Fr in38 σ τ) : CX τ A := by
  obtain ⟨h0, h1, h2, h3, h4, h5, h6⟩ := h
  have e : ∀ k, k ≤ 37 → τ k = σ k := fun k hk => hf k (by simp only [in38]; omega)
  refine ⟨h0, h1.fr (fun k z1 z2 => e k (by omega)), fun ht => ⟨(h2 ht).1.fr (fun k z1 z2 => e k (by omega)), by rw [e 10 (by omega)]; exact (h2 ht).2⟩, ?_, ?_, ?_, ?_⟩
  · rw [e 0 (by omega)]; exact h3
  · rw [e 32 (by omega), e 33 (by omega)]; exact h4
  · rw [e 0 (by omega), e 34 (by omega)]; exact h5
  · rw [e 35 (by omega)]; exact h6
theorem CM.oth {σ τ : SG} {A : AS} (h : CM σ A) (hf : Fr in37 σ τ) : CM τ A := by
  obtain ⟨h0, h1, h2, h3, h4, h5, h6, h7⟩ := h
  have f : ∀ k, 38 ≤ k → τ k = σ k := fun k hk => hf k (by simp only [in37]; omega)
  refine ⟨h0, h1.fr (f 40 (by decide)), fun hk => (h2 hk).fr (f 42 (by decide)), by rw [f 38 (by decide)]; exact h3, by rw [f 38 (by decide), f 46 (by decide)]; exact h4, by rw [f 38 (by decide), f 53 (by decide)]; exact h5, by rw [f 39 (by decide)]; exact h6, ?_⟩
  unfold MT
  rw [f 47 (by decide), f 48 (by decide), f 49 (by decide), f 50 (by decide), f 52 (by decide)]
  exact h7
theorem lw_in {i L : Nat} (h : i < L) (hL : L ≤ 1536) : vp_in (nI i) L := vp_in_nI h (by omega)
abbrev lwV (w : WD) (b i : Nat) : List (Nat × Value) := [(3, .int (nI i)), (2, .ref (wA w 38)), (1, .ref (wA w 0)), (0, .ref b)]
set_option maxRecDepth 100000 in
set_option maxHeartbeats 4000000 in
theorem lc_letter {l : Launch} {w : WD} (h54 : wN w = 54) {K : KT} (C : OK l w K code 4 RL 1312 600000 7302250) {b L : Nat} {xs : Nat → Int32} (hX : SX K b L xs) {i : Nat} (hi : i + 3 ≤ L) (hL : L ≤ 1536) (hc1 : K.2.1.2.1 + 1 ≤ 600000) (hc2 : K.2.1.2.2 + 46 ≤ 7302250) {σ : SG} {A : AS} (hx : CX σ A) (hm : CM σ A) (k : ∀ K' : KT, K'.1 = K.1 → K'.2.2 = K.2.2 → K'.2.1.1 = K.2.1.1 → K'.2.1.2.1 ≤ K.2.1.2.1 + 1 → K'.2.1.2.2 ≤ K.2.1.2.2 + 46 → ∀ (τ : SG) (B : AS), CX τ B → CM τ B → G l w K' 849 (lwV w b i) [] τ) : G l w K 168 (lwV w b i) [] σ := by
  obtain ⟨a, kp, tk, ⟨nl, lt⟩, ⟨qn, qs⟩, rf⟩ := A
  refine g_aload_n C dL_law_168 rfl rfl ?_
  refine g_aload_n C dL_law_169 rfl rfl ?_
  refine g_iload_n C dL_law_170 rfl rfl ?_
  refine g_iconst C dL_law_171 ic_1 ?_
  refine g_iaddv (v := nI (i + 1)) C (nj_plus i 1) dL_law_172 ?_
  refine g_sld C hX (lw_in (by omega) hL) dL_law_173 ?_
  refine g_callVI (rest := []) C mv_L_13 (ct_X4_letter l w (Nat.le_of_eq h54.symm) σ a kp tk nl lt qn qs rf hx (xs (nI (i + 1)).toNatClampNeg)) (Nat.lt_of_lt_of_le (by decide) (Nat.le_of_eq h54.symm)) rfl rfl (by decide) rfl (Nat.le_of_ble_eq_true rfl) dL_law_174 (fun r1 σ1 h1 => ?_)
  obtain ⟨e1, hx1, hf1⟩ := h1
  have hm1 := hm.oth hf1
  refine g_aload_n C dL_law_177 rfl rfl ?_
  refine g_aload_n C dL_law_178 rfl rfl ?_
  refine g_iload_n C dL_law_179 rfl rfl ?_
  refine g_iconst C dL_law_180 ic_1 ?_
  refine g_iaddv (v := nI (i + 1)) C (nj_plus i 1) dL_law_181 ?_
  refine g_sld C hX (lw_in (by omega) hL) dL_law_182 ?_
  refine g_callVI (rest := [.int r1]) C mv_L_17 (ct_X5_letter l w (Nat.le_of_eq h54.symm) σ1 a kp tk nl lt qn qs rf hm1 (xs (nI (i + 1)).toNatClampNeg)) (Nat.lt_of_lt_of_le (by decide) (Nat.le_of_eq h54.symm)) rfl rfl (by decide) rfl (Nat.le_of_ble_eq_true rfl) dL_law_183 (fun r2 σ2 h2 => ?_)
  obtain ⟨e2, hm2, hf2⟩ := h2
  have hx2 := hx1.oth hf2
  refine g_icmp_eq (tgt := 849) C dL_law_186 (by decide) (fun _ => (k K rfl rfl rfl (Nat.le_succ _) (Nat.le_add_right _ 46) σ2 _ hx2 hm2)) (fun z => absurd (e1.trans e2.symm) z)
set_option maxRecDepth 100000 in
set_option maxHeartbeats 4000000 in
theorem lc_house {l : Launch} {w : WD} (h54 : wN w = 54) {K : KT} (C : OK l w K code 4 RL 1312 600000 7302250) {b L : Nat} {xs : Nat → Int32} (hX : SX K b L xs) {i : Nat} (hi : i + 3 ≤ L) (hL : L ≤ 1536) (hc1 : K.2.1.2.1 + 1 ≤ 600000) (hc2 : K.2.1.2.2 + 46 ≤ 7302250) {σ : SG} {A : AS} (hx : CX σ A) (hm : CM σ A) (k : ∀ K' : KT, K'.1 = K.1 → K'.2.2 = K.2.2 → K'.2.1.1 = K.2.1.1 → K'.2.1.2.1 ≤ K.2.1.2.1 + 1 → K'.2.1.2.2 ≤ K.2.1.2.2 + 46 → ∀ (τ : SG) (B : AS), CX τ B → CM τ B → G l w K' 849 (lwV w b i) [] τ) : G l w K 191 (lwV w b i) [] σ := by
  obtain ⟨a, kp, tk, ⟨nl, lt⟩, ⟨qn, qs⟩, rf⟩ := A
  refine g_aload_n C dL_law_191 rfl rfl ?_
  refine g_callVI (rest := []) C mv_L_18 (ct_X4_house l w (Nat.le_of_eq h54.symm) σ a kp tk nl lt qn qs rf hx) (Nat.lt_of_lt_of_le (by decide) (Nat.le_of_eq h54.symm)) rfl rfl (by decide) rfl (Nat.le_of_ble_eq_true rfl) dL_law_192 (fun r1 σ1 h1 => ?_)
  obtain ⟨e1, hx1, hf1⟩ := h1
  have hm1 := hm.oth hf1
  refine g_aload_n C dL_law_195 rfl rfl ?_
  refine g_callVI2 (rest := [.int r1]) C mv_L_22 (ct_X5_house l w h54 σ1 a kp tk nl lt qn qs rf hm1) hc1 hc2 (Nat.lt_of_lt_of_le (by decide) (Nat.le_of_eq h54.symm)) rfl rfl (by decide) rfl (Nat.le_of_ble_eq_true rfl) dL_law_196 (fun K' k1 k2 k3 r2 σ2 h2 => ?_)
  have C := OK.move C k1 k2 (by rw [k3]) (by rw [k3]; exact hc1) (by rw [k3]; exact hc2)
  obtain ⟨e2, hm2, hf2⟩ := h2
  have hx2 := hx1.oth hf2
  refine g_icmp_eq (tgt := 849) C dL_law_199 (by decide) (fun _ => (k K' k1 k2 (by rw [k3]) (by rw [k3]; exact Nat.le_refl _) (by rw [k3]; exact Nat.le_refl _) σ2 _ hx2 hm2)) (fun z => absurd (e1.trans e2.symm) z)
set_option maxRecDepth 100000 in
set_option maxHeartbeats 4000000 in
theorem lc_eater {l : Launch} {w : WD} (h54 : wN w = 54) {K : KT} (C : OK l w K code 4 RL 1312 600000 7302250) {b L : Nat} {xs : Nat → Int32} (hX : SX K b L xs) {i : Nat} (hi : i + 3 ≤ L) (hL : L ≤ 1536) (hc1 : K.2.1.2.1 + 1 ≤ 600000) (hc2 : K.2.1.2.2 + 46 ≤ 7302250) {σ : SG} {A : AS} (hx : CX σ A) (hm : CM σ A) (k : ∀ K' : KT, K'.1 = K.1 → K'.2.2 = K.2.2 → K'.2.1.1 = K.2.1.1 → K'.2.1.2.1 ≤ K.2.1.2.1 + 1 → K'.2.1.2.2 ≤ K.2.1.2.2 + 46 → ∀ (τ : SG) (B : AS), CX τ B → CM τ B → G l w K' 849 (lwV w b i) [] τ) : G l w K 204 (lwV w b i) [] σ := by
  obtain ⟨a, kp, tk, ⟨nl, lt⟩, ⟨qn, qs⟩, rf⟩ := A
  refine g_aload_n C dL_law_204 rfl rfl ?_
  refine g_aload_n C dL_law_205 rfl rfl ?_
  refine g_iload_n C dL_law_206 rfl rfl ?_
  refine g_iconst C dL_law_207 ic_1 ?_
  refine g_iaddv (v := nI (i + 1)) C (nj_plus i 1) dL_law_208 ?_
  refine g_sld C hX (lw_in (by omega) hL) dL_law_209 ?_
  refine g_aload_n C dL_law_210 rfl rfl ?_
  refine g_iload_n C dL_law_211 rfl rfl ?_
  refine g_iconst C dL_law_212 ic_2 ?_
  refine g_iaddv (v := nI (i + 2)) C (nj_plus i 2) dL_law_213 ?_
  refine g_sld C hX (lw_in (by omega) hL) dL_law_214 ?_
  refine g_callVI (rest := []) C mv_L_23 (ct_X4_eater l w (Nat.le_of_eq h54.symm) σ a kp tk nl lt qn qs rf hx (xs (nI (i + 1)).toNatClampNeg) (xs (nI (i + 2)).toNatClampNeg)) (Nat.lt_of_lt_of_le (by decide) (Nat.le_of_eq h54.symm)) rfl rfl (by decide) rfl (Nat.le_of_ble_eq_true rfl) dL_law_215 (fun r1 σ1 h1 => ?_)
  obtain ⟨e1, hx1, hf1⟩ := h1
  have hm1 := hm.oth hf1
  refine g_aload_n C dL_law_218 rfl rfl ?_
  refine g_aload_n C dL_law_219 rfl rfl ?_
  refine g_iload_n C dL_law_220 rfl rfl ?_
  refine g_iconst C dL_law_221 ic_1 ?_
  refine g_iaddv (v := nI (i + 1)) C (nj_plus i 1) dL_law_222 ?_
  refine g_sld C hX (lw_in (by omega) hL) dL_law_223 ?_
  refine g_aload_n C dL_law_224 rfl rfl ?_
  refine g_iload_n C dL_law_225 rfl rfl ?_
  refine g_iconst C dL_law_226 ic_2 ?_
  refine g_iaddv (v := nI (i + 2)) C (nj_plus i 2) dL_law_227 ?_
  refine g_sld C hX (lw_in (by omega) hL) dL_law_228 ?_
  refine g_callVI (rest := [.int r1]) C mv_L_27 (ct_X5_eater l w (Nat.le_of_eq h54.symm) σ1 a kp tk nl lt qn qs rf hm1 (xs (nI (i + 1)).toNatClampNeg) (xs (nI (i + 2)).toNatClampNeg)) (Nat.lt_of_lt_of_le (by decide) (Nat.le_of_eq h54.symm)) rfl rfl (by decide) rfl (Nat.le_of_ble_eq_true rfl) dL_law_229 (fun r2 σ2 h2 => ?_)
  obtain ⟨e2, hm2, hf2⟩ := h2
  have hx2 := hx1.oth hf2
  refine g_icmp_eq (tgt := 849) C dL_law_232 (by decide) (fun _ => (k K rfl rfl rfl (Nat.le_succ _) (Nat.le_add_right _ 46) σ2 _ hx2 hm2)) (fun z => absurd (e1.trans e2.symm) z)
set_option maxRecDepth 100000 in
set_option maxHeartbeats 4000000 in
theorem lc_stock {l : Launch} {w : WD} (h54 : wN w = 54) {K : KT} (C : OK l w K code 4 RL 1312 600000 7302250) {b L : Nat} {xs : Nat → Int32} (hX : SX K b L xs) {i : Nat} (hi : i + 3 ≤ L) (hL : L ≤ 1536) (hc1 : K.2.1.2.1 + 1 ≤ 600000) (hc2 : K.2.1.2.2 + 46 ≤ 7302250) {σ : SG} {A : AS} (hx : CX σ A) (hm : CM σ A) (k : ∀ K' : KT, K'.1 = K.1 → K'.2.2 = K.2.2 → K'.2.1.1 = K.2.1.1 → K'.2.1.2.1 ≤ K.2.1.2.1 + 1 → K'.2.1.2.2 ≤ K.2.1.2.2 + 46 → ∀ (τ : SG) (B : AS), CX τ B → CM τ B → G l w K' 849 (lwV w b i) [] τ) : G l w K 237 (lwV w b i) [] σ := by
  obtain ⟨a, kp, tk, ⟨nl, lt⟩, ⟨qn, qs⟩, rf⟩ := A
  refine g_aload_n C dL_law_237 rfl rfl ?_
  refine g_aload_n C dL_law_238 rfl rfl ?_
  refine g_iload_n C dL_law_239 rfl rfl ?_
  refine g_iconst C dL_law_240 ic_1 ?_
  refine g_iaddv (v := nI (i + 1)) C (nj_plus i 1) dL_law_241 ?_
  refine g_sld C hX (lw_in (by omega) hL) dL_law_242 ?_
  refine g_aload_n C dL_law_243 rfl rfl ?_
  refine g_iload_n C dL_law_244 rfl rfl ?_
  refine g_iconst C dL_law_245 ic_2 ?_
  refine g_iaddv (v := nI (i + 2)) C (nj_plus i 2) dL_law_246 ?_
  refine g_sld C hX (lw_in (by omega) hL) dL_law_247 ?_
  refine g_callVI (rest := []) C mv_L_28 (ct_X4_stock l w (Nat.le_of_eq h54.symm) σ a kp tk nl lt qn qs rf hx (xs (nI (i + 1)).toNatClampNeg) (xs (nI (i + 2)).toNatClampNeg)) (Nat.lt_of_lt_of_le (by decide) (Nat.le_of_eq h54.symm)) rfl rfl (by decide) rfl (Nat.le_of_ble_eq_true rfl) dL_law_248 (fun r1 σ1 h1 => ?_)
  obtain ⟨e1, hx1, hf1⟩ := h1
  have hm1 := hm.oth hf1
  refine g_aload_n C dL_law_251 rfl rfl ?_
  refine g_aload_n C dL_law_252 rfl rfl ?_
  refine g_iload_n C dL_law_253 rfl rfl ?_
  refine g_iconst C dL_law_254 ic_1 ?_
  refine g_iaddv (v := nI (i + 1)) C (nj_plus i 1) dL_law_255 ?_
  refine g_sld C hX (lw_in (by omega) hL) dL_law_256 ?_
  refine g_aload_n C dL_law_257 rfl rfl ?_
  refine g_iload_n C dL_law_258 rfl rfl ?_
  refine g_iconst C dL_law_259 ic_2 ?_
  refine g_iaddv (v := nI (i + 2)) C (nj_plus i 2) dL_law_260 ?_
  refine g_sld C hX (lw_in (by omega) hL) dL_law_261 ?_
  refine g_callVI (rest := [.int r1]) C mv_L_31 (ct_X5_stock l w (Nat.le_of_eq h54.symm) σ1 a kp tk nl lt qn qs rf hm1 (xs (nI (i + 1)).toNatClampNeg) (xs (nI (i + 2)).toNatClampNeg)) (Nat.lt_of_lt_of_le (by decide) (Nat.le_of_eq h54.symm)) rfl rfl (by decide) rfl (Nat.le_of_ble_eq_true rfl) dL_law_262 (fun r2 σ2 h2 => ?_)
  obtain ⟨e2, hm2, hf2⟩ := h2
  have hx2 := hx1.oth hf2
  refine g_icmp_eq (tgt := 849) C dL_law_265 (by decide) (fun _ => (k K rfl rfl rfl (Nat.le_succ _) (Nat.le_add_right _ 46) σ2 _ hx2 hm2)) (fun z => absurd (e1.trans e2.symm) z)
set_option maxRecDepth 100000 in
set_option maxHeartbeats 4000000 in
theorem lc_open {l : Launch} {w : WD} (h54 : wN w = 54) {K : KT} (C : OK l w K code 4 RL 1312 600000 7302250) {b L : Nat} {xs : Nat → Int32} (hX : SX K b L xs) {i : Nat} (hi : i + 3 ≤ L) (hL : L ≤ 1536) (hc1 : K.2.1.2.1 + 1 ≤ 600000) (hc2 : K.2.1.2.2 + 46 ≤ 7302250) {σ : SG} {A : AS} (hx : CX σ A) (hm : CM σ A) (k : ∀ K' : KT, K'.1 = K.1 → K'.2.2 = K.2.2 → K'.2.1.1 = K.2.1.1 → K'.2.1.2.1 ≤ K.2.1.2.1 + 1 → K'.2.1.2.2 ≤ K.2.1.2.2 + 46 → ∀ (τ : SG) (B : AS), CX τ B → CM τ B → G l w K' 849 (lwV w b i) [] τ) : G l w K 270 (lwV w b i) [] σ := by
  obtain ⟨a, kp, tk, ⟨nl, lt⟩, ⟨qn, qs⟩, rf⟩ := A
  refine g_aload_n C dL_law_270 rfl rfl ?_
  refine g_aload_n C dL_law_271 rfl rfl ?_
  refine g_iload_n C dL_law_272 rfl rfl ?_
  refine g_iconst C dL_law_273 ic_1 ?_
  refine g_iaddv (v := nI (i + 1)) C (nj_plus i 1) dL_law_274 ?_
  refine g_sld C hX (lw_in (by omega) hL) dL_law_275 ?_
  refine g_aload_n C dL_law_276 rfl rfl ?_
  refine g_iload_n C dL_law_277 rfl rfl ?_
  refine g_iconst C dL_law_278 ic_2 ?_
  refine g_iaddv (v := nI (i + 2)) C (nj_plus i 2) dL_law_279 ?_
  refine g_sld C hX (lw_in (by omega) hL) dL_law_280 ?_
  refine g_callVI (rest := []) C mv_L_32 (ct_X4_open l w (Nat.le_of_eq h54.symm) σ a kp tk nl lt qn qs rf hx (xs (nI (i + 1)).toNatClampNeg) (xs (nI (i + 2)).toNatClampNeg)) (Nat.lt_of_lt_of_le (by decide) (Nat.le_of_eq h54.symm)) rfl rfl (by decide) rfl (Nat.le_of_ble_eq_true rfl) dL_law_281 (fun r1 σ1 h1 => ?_)
  obtain ⟨e1, hx1, hf1⟩ := h1
  have hm1 := hm.oth hf1
  refine g_aload_n C dL_law_284 rfl rfl ?_
  refine g_aload_n C dL_law_285 rfl rfl ?_
  refine g_iload_n C dL_law_286 rfl rfl ?_
  refine g_iconst C dL_law_287 ic_1 ?_
  refine g_iaddv (v := nI (i + 1)) C (nj_plus i 1) dL_law_288 ?_
  refine g_sld C hX (lw_in (by omega) hL) dL_law_289 ?_
  refine g_aload_n C dL_law_290 rfl rfl ?_
  refine g_iload_n C dL_law_291 rfl rfl ?_
  refine g_iconst C dL_law_292 ic_2 ?_
  refine g_iaddv (v := nI (i + 2)) C (nj_plus i 2) dL_law_293 ?_
  refine g_sld C hX (lw_in (by omega) hL) dL_law_294 ?_
  refine g_callVI (rest := [.int r1]) C mv_L_35 (ct_X5_open l w (Nat.le_of_eq h54.symm) σ1 a kp tk nl lt qn qs rf hm1 (xs (nI (i + 1)).toNatClampNeg) (xs (nI (i + 2)).toNatClampNeg)) (Nat.lt_of_lt_of_le (by decide) (Nat.le_of_eq h54.symm)) rfl rfl (by decide) rfl (Nat.le_of_ble_eq_true rfl) dL_law_295 (fun r2 σ2 h2 => ?_)
  obtain ⟨e2, hm2, hf2⟩ := h2
  have hx2 := hx1.oth hf2
  refine g_icmp_eq (tgt := 849) C dL_law_298 (by decide) (fun _ => (k K rfl rfl rfl (Nat.le_succ _) (Nat.le_add_right _ 46) σ2 _ hx2 hm2)) (fun z => absurd (e1.trans e2.symm) z)
set_option maxRecDepth 100000 in
set_option maxHeartbeats 4000000 in
theorem lc_set {l : Launch} {w : WD} (h54 : wN w = 54) {K : KT} (C : OK l w K code 4 RL 1312 600000 7302250) {b L : Nat} {xs : Nat → Int32} (hX : SX K b L xs) {i : Nat} (hi : i + 3 ≤ L) (hL : L ≤ 1536) (hc1 : K.2.1.2.1 + 1 ≤ 600000) (hc2 : K.2.1.2.2 + 46 ≤ 7302250) {σ : SG} {A : AS} (hx : CX σ A) (hm : CM σ A) (k : ∀ K' : KT, K'.1 = K.1 → K'.2.2 = K.2.2 → K'.2.1.1 = K.2.1.1 → K'.2.1.2.1 ≤ K.2.1.2.1 + 1 → K'.2.1.2.2 ≤ K.2.1.2.2 + 46 → ∀ (τ : SG) (B : AS), CX τ B → CM τ B → G l w K' 849 (lwV w b i) [] τ) : G l w K 303 (lwV w b i) [] σ := by
  obtain ⟨a, kp, tk, ⟨nl, lt⟩, ⟨qn, qs⟩, rf⟩ := A
  refine g_aload_n C dL_law_303 rfl rfl ?_
  refine g_aload_n C dL_law_304 rfl rfl ?_
  refine g_iload_n C dL_law_305 rfl rfl ?_
  refine g_iconst C dL_law_306 ic_1 ?_
  refine g_iaddv (v := nI (i + 1)) C (nj_plus i 1) dL_law_307 ?_
  refine g_sld C hX (lw_in (by omega) hL) dL_law_308 ?_
  refine g_aload_n C dL_law_309 rfl rfl ?_
  refine g_iload_n C dL_law_310 rfl rfl ?_
  refine g_iconst C dL_law_311 ic_2 ?_
  refine g_iaddv (v := nI (i + 2)) C (nj_plus i 2) dL_law_312 ?_
  refine g_sld C hX (lw_in (by omega) hL) dL_law_313 ?_
  refine g_callVI (rest := []) C mv_L_36 (ct_X4_set l w (Nat.le_of_eq h54.symm) σ a kp tk nl lt qn qs rf hx (xs (nI (i + 1)).toNatClampNeg) (xs (nI (i + 2)).toNatClampNeg)) (Nat.lt_of_lt_of_le (by decide) (Nat.le_of_eq h54.symm)) rfl rfl (by decide) rfl (Nat.le_of_ble_eq_true rfl) dL_law_314 (fun r1 σ1 h1 => ?_)
  obtain ⟨e1, hx1, hf1⟩ := h1
  have hm1 := hm.oth hf1
  refine g_aload_n C dL_law_317 rfl rfl ?_
  refine g_aload_n C dL_law_318 rfl rfl ?_
  refine g_iload_n C dL_law_319 rfl rfl ?_
  refine g_iconst C dL_law_320 ic_1 ?_
  refine g_iaddv (v := nI (i + 1)) C (nj_plus i 1) dL_law_321 ?_
  refine g_sld C hX (lw_in (by omega) hL) dL_law_322 ?_
  refine g_aload_n C dL_law_323 rfl rfl ?_
  refine g_iload_n C dL_law_324 rfl rfl ?_
  refine g_iconst C dL_law_325 ic_2 ?_
  refine g_iaddv (v := nI (i + 2)) C (nj_plus i 2) dL_law_326 ?_
  refine g_sld C hX (lw_in (by omega) hL) dL_law_327 ?_
  refine g_callVI (rest := [.int r1]) C mv_L_39 (ct_X5_set l w (Nat.le_of_eq h54.symm) σ1 a kp tk nl lt qn qs rf hm1 (xs (nI (i + 1)).toNatClampNeg) (xs (nI (i + 2)).toNatClampNeg)) (Nat.lt_of_lt_of_le (by decide) (Nat.le_of_eq h54.symm)) rfl rfl (by decide) rfl (Nat.le_of_ble_eq_true rfl) dL_law_328 (fun r2 σ2 h2 => ?_)
  obtain ⟨e2, hm2, hf2⟩ := h2
  have hx2 := hx1.oth hf2
  refine g_icmp_eq (tgt := 849) C dL_law_331 (by decide) (fun _ => (k K rfl rfl rfl (Nat.le_succ _) (Nat.le_add_right _ 46) σ2 _ hx2 hm2)) (fun z => absurd (e1.trans e2.symm) z)
set_option maxRecDepth 100000 in
set_option maxHeartbeats 4000000 in
theorem lc_worth {l : Launch} {w : WD} (h54 : wN w = 54) {K : KT} (C : OK l w K code 4 RL 1312 600000 7302250) {b L : Nat} {xs : Nat → Int32} (hX : SX K b L xs) {i : Nat} (hi : i + 3 ≤ L) (hL : L ≤ 1536) (hc1 : K.2.1.2.1 + 1 ≤ 600000) (hc2 : K.2.1.2.2 + 46 ≤ 7302250) {σ : SG} {A : AS} (hx : CX σ A) (hm : CM σ A) (k : ∀ K' : KT, K'.1 = K.1 → K'.2.2 = K.2.2 → K'.2.1.1 = K.2.1.1 → K'.2.1.2.1 ≤ K.2.1.2.1 + 1 → K'.2.1.2.2 ≤ K.2.1.2.2 + 46 → ∀ (τ : SG) (B : AS), CX τ B → CM τ B → G l w K' 849 (lwV w b i) [] τ) : G l w K 336 (lwV w b i) [] σ := by
  obtain ⟨a, kp, tk, ⟨nl, lt⟩, ⟨qn, qs⟩, rf⟩ := A
  refine g_aload_n C dL_law_336 rfl rfl ?_
  refine g_aload_n C dL_law_337 rfl rfl ?_
  refine g_iload_n C dL_law_338 rfl rfl ?_
  refine g_iconst C dL_law_339 ic_1 ?_
  refine g_iaddv (v := nI (i + 1)) C (nj_plus i 1) dL_law_340 ?_
  refine g_sld C hX (lw_in (by omega) hL) dL_law_341 ?_
  refine g_aload_n C dL_law_342 rfl rfl ?_
  refine g_iload_n C dL_law_343 rfl rfl ?_
  refine g_iconst C dL_law_344 ic_2 ?_
  refine g_iaddv (v := nI (i + 2)) C (nj_plus i 2) dL_law_345 ?_
  refine g_sld C hX (lw_in (by omega) hL) dL_law_346 ?_
  refine g_callVI (rest := []) C mv_L_40 (ct_X4_worth l w (Nat.le_of_eq h54.symm) σ a kp tk nl lt qn qs rf hx (xs (nI (i + 1)).toNatClampNeg) (xs (nI (i + 2)).toNatClampNeg)) (Nat.lt_of_lt_of_le (by decide) (Nat.le_of_eq h54.symm)) rfl rfl (by decide) rfl (Nat.le_of_ble_eq_true rfl) dL_law_347 (fun r1 σ1 h1 => ?_)
  obtain ⟨e1, hx1, hf1⟩ := h1
  have hm1 := hm.oth hf1
  refine g_aload_n C dL_law_350 rfl rfl ?_
  refine g_aload_n C dL_law_351 rfl rfl ?_
  refine g_iload_n C dL_law_352 rfl rfl ?_
  refine g_iconst C dL_law_353 ic_1 ?_
  refine g_iaddv (v := nI (i + 1)) C (nj_plus i 1) dL_law_354 ?_
  refine g_sld C hX (lw_in (by omega) hL) dL_law_355 ?_
  refine g_aload_n C dL_law_356 rfl rfl ?_
  refine g_iload_n C dL_law_357 rfl rfl ?_
  refine g_iconst C dL_law_358 ic_2 ?_
  refine g_iaddv (v := nI (i + 2)) C (nj_plus i 2) dL_law_359 ?_
  refine g_sld C hX (lw_in (by omega) hL) dL_law_360 ?_
  refine g_callVI (rest := [.int r1]) C mv_L_43 (ct_X5_worth l w (Nat.le_of_eq h54.symm) σ1 a kp tk nl lt qn qs rf hm1 (xs (nI (i + 1)).toNatClampNeg) (xs (nI (i + 2)).toNatClampNeg)) (Nat.lt_of_lt_of_le (by decide) (Nat.le_of_eq h54.symm)) rfl rfl (by decide) rfl (Nat.le_of_ble_eq_true rfl) dL_law_361 (fun r2 σ2 h2 => ?_)
  obtain ⟨e2, hm2, hf2⟩ := h2
  have hx2 := hx1.oth hf2
  refine g_icmp_eq (tgt := 849) C dL_law_364 (by decide) (fun _ => (k K rfl rfl rfl (Nat.le_succ _) (Nat.le_add_right _ 46) σ2 _ hx2 hm2)) (fun z => absurd (e1.trans e2.symm) z)
set_option maxRecDepth 100000 in
set_option maxHeartbeats 4000000 in
theorem lc_dayOn {l : Launch} {w : WD} (h54 : wN w = 54) {K : KT} (C : OK l w K code 4 RL 1312 600000 7302250) {b L : Nat} {xs : Nat → Int32} (hX : SX K b L xs) {i : Nat} (hi : i + 3 ≤ L) (hL : L ≤ 1536) (hc1 : K.2.1.2.1 + 1 ≤ 600000) (hc2 : K.2.1.2.2 + 46 ≤ 7302250) {σ : SG} {A : AS} (hx : CX σ A) (hm : CM σ A) (k : ∀ K' : KT, K'.1 = K.1 → K'.2.2 = K.2.2 → K'.2.1.1 = K.2.1.1 → K'.2.1.2.1 ≤ K.2.1.2.1 + 1 → K'.2.1.2.2 ≤ K.2.1.2.2 + 46 → ∀ (τ : SG) (B : AS), CX τ B → CM τ B → G l w K' 849 (lwV w b i) [] τ) : G l w K 369 (lwV w b i) [] σ := by
  obtain ⟨a, kp, tk, ⟨nl, lt⟩, ⟨qn, qs⟩, rf⟩ := A
  refine g_aload_n C dL_law_369 rfl rfl ?_
  refine g_callVI (rest := []) C mv_L_44 (ct_X4_dayOn l w (Nat.le_of_eq h54.symm) σ a kp tk nl lt qn qs rf hx) (Nat.lt_of_lt_of_le (by decide) (Nat.le_of_eq h54.symm)) rfl rfl (by decide) rfl (Nat.le_of_ble_eq_true rfl) dL_law_370 (fun r1 σ1 h1 => ?_)
  obtain ⟨e1, hx1, hf1⟩ := h1
  have hm1 := hm.oth hf1
  refine g_aload_n C dL_law_373 rfl rfl ?_
  refine g_callVI (rest := [.int r1]) C mv_L_47 (ct_X5_dayOn l w (Nat.le_of_eq h54.symm) σ1 a kp tk nl lt qn qs rf hm1) (Nat.lt_of_lt_of_le (by decide) (Nat.le_of_eq h54.symm)) rfl rfl (by decide) rfl (Nat.le_of_ble_eq_true rfl) dL_law_374 (fun r2 σ2 h2 => ?_)
  obtain ⟨e2, hm2, hf2⟩ := h2
  have hx2 := hx1.oth hf2
  refine g_icmp_eq (tgt := 849) C dL_law_377 (by decide) (fun _ => (k K rfl rfl rfl (Nat.le_succ _) (Nat.le_add_right _ 46) σ2 _ hx2 hm2)) (fun z => absurd (e1.trans e2.symm) z)
set_option maxRecDepth 100000 in
set_option maxHeartbeats 4000000 in
theorem lc_total {l : Launch} {w : WD} (h54 : wN w = 54) {K : KT} (C : OK l w K code 4 RL 1312 600000 7302250) {b L : Nat} {xs : Nat → Int32} (hX : SX K b L xs) {i : Nat} (hi : i + 3 ≤ L) (hL : L ≤ 1536) (hc1 : K.2.1.2.1 + 1 ≤ 600000) (hc2 : K.2.1.2.2 + 46 ≤ 7302250) {σ : SG} {A : AS} (hx : CX σ A) (hm : CM σ A) (k : ∀ K' : KT, K'.1 = K.1 → K'.2.2 = K.2.2 → K'.2.1.1 = K.2.1.1 → K'.2.1.2.1 ≤ K.2.1.2.1 + 1 → K'.2.1.2.2 ≤ K.2.1.2.2 + 46 → ∀ (τ : SG) (B : AS), CX τ B → CM τ B → G l w K' 849 (lwV w b i) [] τ) : G l w K 382 (lwV w b i) [] σ := by
  obtain ⟨a, kp, tk, ⟨nl, lt⟩, ⟨qn, qs⟩, rf⟩ := A
  refine g_aload_n C dL_law_382 rfl rfl ?_
  refine g_aload_n C dL_law_383 rfl rfl ?_
  refine g_iload_n C dL_law_384 rfl rfl ?_
  refine g_iconst C dL_law_385 ic_1 ?_
  refine g_iaddv (v := nI (i + 1)) C (nj_plus i 1) dL_law_386 ?_
  refine g_sld C hX (lw_in (by omega) hL) dL_law_387 ?_
  refine g_aload_n C dL_law_388 rfl rfl ?_
  refine g_iload_n C dL_law_389 rfl rfl ?_
  refine g_iconst C dL_law_390 ic_2 ?_
  refine g_iaddv (v := nI (i + 2)) C (nj_plus i 2) dL_law_391 ?_
  refine g_sld C hX (lw_in (by omega) hL) dL_law_392 ?_
  refine g_callVI (rest := []) C mv_L_48 (ct_X4_total l w (Nat.le_of_eq h54.symm) σ a kp tk nl lt qn qs rf hx (xs (nI (i + 1)).toNatClampNeg) (xs (nI (i + 2)).toNatClampNeg)) (Nat.lt_of_lt_of_le (by decide) (Nat.le_of_eq h54.symm)) rfl rfl (by decide) rfl (Nat.le_of_ble_eq_true rfl) dL_law_393 (fun r1 σ1 h1 => ?_)
  obtain ⟨e1, hx1, hf1⟩ := h1
  have hm1 := hm.oth hf1
  refine g_aload_n C dL_law_396 rfl rfl ?_
  refine g_aload_n C dL_law_397 rfl rfl ?_
  refine g_iload_n C dL_law_398 rfl rfl ?_
  refine g_iconst C dL_law_399 ic_1 ?_
  refine g_iaddv (v := nI (i + 1)) C (nj_plus i 1) dL_law_400 ?_
  refine g_sld C hX (lw_in (by omega) hL) dL_law_401 ?_
  refine g_aload_n C dL_law_402 rfl rfl ?_
  refine g_iload_n C dL_law_403 rfl rfl ?_
  refine g_iconst C dL_law_404 ic_2 ?_
  refine g_iaddv (v := nI (i + 2)) C (nj_plus i 2) dL_law_405 ?_
  refine g_sld C hX (lw_in (by omega) hL) dL_law_406 ?_
  refine g_callVI (rest := [.int r1]) C mv_L_51 (ct_X5_total l w (Nat.le_of_eq h54.symm) σ1 a kp tk nl lt qn qs rf hm1 (xs (nI (i + 1)).toNatClampNeg) (xs (nI (i + 2)).toNatClampNeg)) (Nat.lt_of_lt_of_le (by decide) (Nat.le_of_eq h54.symm)) rfl rfl (by decide) rfl (Nat.le_of_ble_eq_true rfl) dL_law_407 (fun r2 σ2 h2 => ?_)
  obtain ⟨e2, hm2, hf2⟩ := h2
  have hx2 := hx1.oth hf2
  refine g_icmp_eq (tgt := 849) C dL_law_410 (by decide) (fun _ => (k K rfl rfl rfl (Nat.le_succ _) (Nat.le_add_right _ 46) σ2 _ hx2 hm2)) (fun z => absurd (e1.trans e2.symm) z)
set_option maxRecDepth 100000 in
set_option maxHeartbeats 4000000 in
theorem lc_left {l : Launch} {w : WD} (h54 : wN w = 54) {K : KT} (C : OK l w K code 4 RL 1312 600000 7302250) {b L : Nat} {xs : Nat → Int32} (hX : SX K b L xs) {i : Nat} (hi : i + 3 ≤ L) (hL : L ≤ 1536) (hc1 : K.2.1.2.1 + 1 ≤ 600000) (hc2 : K.2.1.2.2 + 46 ≤ 7302250) {σ : SG} {A : AS} (hx : CX σ A) (hm : CM σ A) (k : ∀ K' : KT, K'.1 = K.1 → K'.2.2 = K.2.2 → K'.2.1.1 = K.2.1.1 → K'.2.1.2.1 ≤ K.2.1.2.1 + 1 → K'.2.1.2.2 ≤ K.2.1.2.2 + 46 → ∀ (τ : SG) (B : AS), CX τ B → CM τ B → G l w K' 849 (lwV w b i) [] τ) : G l w K 415 (lwV w b i) [] σ := by
  obtain ⟨a, kp, tk, ⟨nl, lt⟩, ⟨qn, qs⟩, rf⟩ := A
  refine g_aload_n C dL_law_415 rfl rfl ?_
  refine g_aload_n C dL_law_416 rfl rfl ?_
  refine g_iload_n C dL_law_417 rfl rfl ?_
  refine g_iconst C dL_law_418 ic_1 ?_
  refine g_iaddv (v := nI (i + 1)) C (nj_plus i 1) dL_law_419 ?_
  refine g_sld C hX (lw_in (by omega) hL) dL_law_420 ?_
  refine g_aload_n C dL_law_421 rfl rfl ?_
  refine g_iload_n C dL_law_422 rfl rfl ?_
  refine g_iconst C dL_law_423 ic_2 ?_
  refine g_iaddv (v := nI (i + 2)) C (nj_plus i 2) dL_law_424 ?_
  refine g_sld C hX (lw_in (by omega) hL) dL_law_425 ?_
  refine g_callVI (rest := []) C mv_L_52 (ct_X4_left l w (Nat.le_of_eq h54.symm) σ a kp tk nl lt qn qs rf hx (xs (nI (i + 1)).toNatClampNeg) (xs (nI (i + 2)).toNatClampNeg)) (Nat.lt_of_lt_of_le (by decide) (Nat.le_of_eq h54.symm)) rfl rfl (by decide) rfl (Nat.le_of_ble_eq_true rfl) dL_law_426 (fun r1 σ1 h1 => ?_)
  obtain ⟨e1, hx1, hf1⟩ := h1
  have hm1 := hm.oth hf1
  refine g_aload_n C dL_law_429 rfl rfl ?_
  refine g_aload_n C dL_law_430 rfl rfl ?_
  refine g_iload_n C dL_law_431 rfl rfl ?_
  refine g_iconst C dL_law_432 ic_1 ?_
  refine g_iaddv (v := nI (i + 1)) C (nj_plus i 1) dL_law_433 ?_
  refine g_sld C hX (lw_in (by omega) hL) dL_law_434 ?_
  refine g_aload_n C dL_law_435 rfl rfl ?_
  refine g_iload_n C dL_law_436 rfl rfl ?_
  refine g_iconst C dL_law_437 ic_2 ?_
  refine g_iaddv (v := nI (i + 2)) C (nj_plus i 2) dL_law_438 ?_
  refine g_sld C hX (lw_in (by omega) hL) dL_law_439 ?_
  refine g_callVI (rest := [.int r1]) C mv_L_55 (ct_X5_left l w (Nat.le_of_eq h54.symm) σ1 a kp tk nl lt qn qs rf hm1 (xs (nI (i + 1)).toNatClampNeg) (xs (nI (i + 2)).toNatClampNeg)) (Nat.lt_of_lt_of_le (by decide) (Nat.le_of_eq h54.symm)) rfl rfl (by decide) rfl (Nat.le_of_ble_eq_true rfl) dL_law_440 (fun r2 σ2 h2 => ?_)
  obtain ⟨e2, hm2, hf2⟩ := h2
  have hx2 := hx1.oth hf2
  refine g_icmp_eq (tgt := 849) C dL_law_443 (by decide) (fun _ => (k K rfl rfl rfl (Nat.le_succ _) (Nat.le_add_right _ 46) σ2 _ hx2 hm2)) (fun z => absurd (e1.trans e2.symm) z)
set_option maxRecDepth 100000 in
set_option maxHeartbeats 4000000 in
theorem lc_never {l : Launch} {w : WD} (h54 : wN w = 54) {K : KT} (C : OK l w K code 4 RL 1312 600000 7302250) {b L : Nat} {xs : Nat → Int32} (hX : SX K b L xs) {i : Nat} (hi : i + 3 ≤ L) (hL : L ≤ 1536) (hc1 : K.2.1.2.1 + 1 ≤ 600000) (hc2 : K.2.1.2.2 + 46 ≤ 7302250) {σ : SG} {A : AS} (hx : CX σ A) (hm : CM σ A) (k : ∀ K' : KT, K'.1 = K.1 → K'.2.2 = K.2.2 → K'.2.1.1 = K.2.1.1 → K'.2.1.2.1 ≤ K.2.1.2.1 + 1 → K'.2.1.2.2 ≤ K.2.1.2.2 + 46 → ∀ (τ : SG) (B : AS), CX τ B → CM τ B → G l w K' 849 (lwV w b i) [] τ) : G l w K 448 (lwV w b i) [] σ := by
  obtain ⟨a, kp, tk, ⟨nl, lt⟩, ⟨qn, qs⟩, rf⟩ := A
  refine g_aload_n C dL_law_448 rfl rfl ?_
  refine g_callVI (rest := []) C mv_L_56 (ct_X4_never l w (Nat.le_of_eq h54.symm) σ a kp tk nl lt qn qs rf hx) (Nat.lt_of_lt_of_le (by decide) (Nat.le_of_eq h54.symm)) rfl rfl (by decide) rfl (Nat.le_of_ble_eq_true rfl) dL_law_449 (fun r1 σ1 h1 => ?_)
  obtain ⟨e1, hx1, hf1⟩ := h1
  have hm1 := hm.oth hf1
  refine g_aload_n C dL_law_452 rfl rfl ?_
  refine g_callVI (rest := [.int r1]) C mv_L_59 (ct_X5_never l w (Nat.le_of_eq h54.symm) σ1 a kp tk nl lt qn qs rf hm1) (Nat.lt_of_lt_of_le (by decide) (Nat.le_of_eq h54.symm)) rfl rfl (by decide) rfl (Nat.le_of_ble_eq_true rfl) dL_law_453 (fun r2 σ2 h2 => ?_)
  obtain ⟨e2, hm2, hf2⟩ := h2
  have hx2 := hx1.oth hf2
  refine g_icmp_eq (tgt := 849) C dL_law_456 (by decide) (fun _ => (k K rfl rfl rfl (Nat.le_succ _) (Nat.le_add_right _ 46) σ2 _ hx2 hm2)) (fun z => absurd (e1.trans e2.symm) z)
set_option maxRecDepth 100000 in
set_option maxHeartbeats 4000000 in
theorem lc_out {l : Launch} {w : WD} (h54 : wN w = 54) {K : KT} (C : OK l w K code 4 RL 1312 600000 7302250) {b L : Nat} {xs : Nat → Int32} (hX : SX K b L xs) {i : Nat} (hi : i + 3 ≤ L) (hL : L ≤ 1536) (hc1 : K.2.1.2.1 + 1 ≤ 600000) (hc2 : K.2.1.2.2 + 46 ≤ 7302250) {σ : SG} {A : AS} (hx : CX σ A) (hm : CM σ A) (k : ∀ K' : KT, K'.1 = K.1 → K'.2.2 = K.2.2 → K'.2.1.1 = K.2.1.1 → K'.2.1.2.1 ≤ K.2.1.2.1 + 1 → K'.2.1.2.2 ≤ K.2.1.2.2 + 46 → ∀ (τ : SG) (B : AS), CX τ B → CM τ B → G l w K' 849 (lwV w b i) [] τ) : G l w K 461 (lwV w b i) [] σ := by
  obtain ⟨a, kp, tk, ⟨nl, lt⟩, ⟨qn, qs⟩, rf⟩ := A
  refine g_aload_n C dL_law_461 rfl rfl ?_
  refine g_aload_n C dL_law_462 rfl rfl ?_
  refine g_iload_n C dL_law_463 rfl rfl ?_
  refine g_iconst C dL_law_464 ic_1 ?_
  refine g_iaddv (v := nI (i + 1)) C (nj_plus i 1) dL_law_465 ?_
  refine g_sld C hX (lw_in (by omega) hL) dL_law_466 ?_
  refine g_callVI (rest := []) C mv_L_60 (ct_X4_out l w (Nat.le_of_eq h54.symm) σ a kp tk nl lt qn qs rf hx (xs (nI (i + 1)).toNatClampNeg)) (Nat.lt_of_lt_of_le (by decide) (Nat.le_of_eq h54.symm)) rfl rfl (by decide) rfl (Nat.le_of_ble_eq_true rfl) dL_law_467 (fun r1 σ1 h1 => ?_)
  obtain ⟨e1, hx1, hf1⟩ := h1
  have hm1 := hm.oth hf1
  refine g_aload_n C dL_law_470 rfl rfl ?_
  refine g_aload_n C dL_law_471 rfl rfl ?_
  refine g_iload_n C dL_law_472 rfl rfl ?_
  refine g_iconst C dL_law_473 ic_1 ?_
  refine g_iaddv (v := nI (i + 1)) C (nj_plus i 1) dL_law_474 ?_
  refine g_sld C hX (lw_in (by omega) hL) dL_law_475 ?_
  refine g_callVI (rest := [.int r1]) C mv_L_63 (ct_X5_out l w (Nat.le_of_eq h54.symm) σ1 a kp tk nl lt qn qs rf hm1 (xs (nI (i + 1)).toNatClampNeg)) (Nat.lt_of_lt_of_le (by decide) (Nat.le_of_eq h54.symm)) rfl rfl (by decide) rfl (Nat.le_of_ble_eq_true rfl) dL_law_476 (fun r2 σ2 h2 => ?_)
  obtain ⟨e2, hm2, hf2⟩ := h2
  have hx2 := hx1.oth hf2
  refine g_icmp_eq (tgt := 849) C dL_law_479 (by decide) (fun _ => (k K rfl rfl rfl (Nat.le_succ _) (Nat.le_add_right _ 46) σ2 _ hx2 hm2)) (fun z => absurd (e1.trans e2.symm) z)
set_option maxRecDepth 100000 in
set_option maxHeartbeats 4000000 in
theorem lc_less {l : Launch} {w : WD} (h54 : wN w = 54) {K : KT} (C : OK l w K code 4 RL 1312 600000 7302250) {b L : Nat} {xs : Nat → Int32} (hX : SX K b L xs) {i : Nat} (hi : i + 3 ≤ L) (hL : L ≤ 1536) (hc1 : K.2.1.2.1 + 1 ≤ 600000) (hc2 : K.2.1.2.2 + 46 ≤ 7302250) {σ : SG} {A : AS} (hx : CX σ A) (hm : CM σ A) (k : ∀ K' : KT, K'.1 = K.1 → K'.2.2 = K.2.2 → K'.2.1.1 = K.2.1.1 → K'.2.1.2.1 ≤ K.2.1.2.1 + 1 → K'.2.1.2.2 ≤ K.2.1.2.2 + 46 → ∀ (τ : SG) (B : AS), CX τ B → CM τ B → G l w K' 849 (lwV w b i) [] τ) : G l w K 484 (lwV w b i) [] σ := by
  obtain ⟨a, kp, tk, ⟨nl, lt⟩, ⟨qn, qs⟩, rf⟩ := A
  refine g_aload_n C dL_law_484 rfl rfl ?_
  refine g_aload_n C dL_law_485 rfl rfl ?_
  refine g_iload_n C dL_law_486 rfl rfl ?_
  refine g_iconst C dL_law_487 ic_1 ?_
  refine g_iaddv (v := nI (i + 1)) C (nj_plus i 1) dL_law_488 ?_
  refine g_sld C hX (lw_in (by omega) hL) dL_law_489 ?_
  refine g_callVI (rest := []) C mv_L_64 (ct_X4_less l w (Nat.le_of_eq h54.symm) σ a kp tk nl lt qn qs rf hx (xs (nI (i + 1)).toNatClampNeg)) (Nat.lt_of_lt_of_le (by decide) (Nat.le_of_eq h54.symm)) rfl rfl (by decide) rfl (Nat.le_of_ble_eq_true rfl) dL_law_490 (fun r1 σ1 h1 => ?_)
  obtain ⟨e1, hx1, hf1⟩ := h1
  have hm1 := hm.oth hf1
  refine g_aload_n C dL_law_493 rfl rfl ?_
  refine g_aload_n C dL_law_494 rfl rfl ?_
  refine g_iload_n C dL_law_495 rfl rfl ?_
  refine g_iconst C dL_law_496 ic_1 ?_
  refine g_iaddv (v := nI (i + 1)) C (nj_plus i 1) dL_law_497 ?_
  refine g_sld C hX (lw_in (by omega) hL) dL_law_498 ?_
  refine g_callVI (rest := [.int r1]) C mv_L_67 (ct_X5_less l w (Nat.le_of_eq h54.symm) σ1 a kp tk nl lt qn qs rf hm1 (xs (nI (i + 1)).toNatClampNeg)) (Nat.lt_of_lt_of_le (by decide) (Nat.le_of_eq h54.symm)) rfl rfl (by decide) rfl (Nat.le_of_ble_eq_true rfl) dL_law_499 (fun r2 σ2 h2 => ?_)
  obtain ⟨e2, hm2, hf2⟩ := h2
  have hx2 := hx1.oth hf2
  refine g_icmp_eq (tgt := 849) C dL_law_502 (by decide) (fun _ => (k K rfl rfl rfl (Nat.le_succ _) (Nat.le_add_right _ 46) σ2 _ hx2 hm2)) (fun z => absurd (e1.trans e2.symm) z)
set_option maxRecDepth 100000 in
set_option maxHeartbeats 4000000 in
theorem lc_best {l : Launch} {w : WD} (h54 : wN w = 54) {K : KT} (C : OK l w K code 4 RL 1312 600000 7302250) {b L : Nat} {xs : Nat → Int32} (hX : SX K b L xs) {i : Nat} (hi : i + 3 ≤ L) (hL : L ≤ 1536) (hc1 : K.2.1.2.1 + 1 ≤ 600000) (hc2 : K.2.1.2.2 + 46 ≤ 7302250) {σ : SG} {A : AS} (hx : CX σ A) (hm : CM σ A) (k : ∀ K' : KT, K'.1 = K.1 → K'.2.2 = K.2.2 → K'.2.1.1 = K.2.1.1 → K'.2.1.2.1 ≤ K.2.1.2.1 + 1 → K'.2.1.2.2 ≤ K.2.1.2.2 + 46 → ∀ (τ : SG) (B : AS), CX τ B → CM τ B → G l w K' 849 (lwV w b i) [] τ) : G l w K 507 (lwV w b i) [] σ := by
  obtain ⟨a, kp, tk, ⟨nl, lt⟩, ⟨qn, qs⟩, rf⟩ := A
  refine g_aload_n C dL_law_507 rfl rfl ?_
  refine g_aload_n C dL_law_508 rfl rfl ?_
  refine g_iload_n C dL_law_509 rfl rfl ?_
  refine g_iconst C dL_law_510 ic_1 ?_
  refine g_iaddv (v := nI (i + 1)) C (nj_plus i 1) dL_law_511 ?_
  refine g_sld C hX (lw_in (by omega) hL) dL_law_512 ?_
  refine g_callVI (rest := []) C mv_L_68 (ct_X4_best l w (Nat.le_of_eq h54.symm) σ a kp tk nl lt qn qs rf hx (xs (nI (i + 1)).toNatClampNeg)) (Nat.lt_of_lt_of_le (by decide) (Nat.le_of_eq h54.symm)) rfl rfl (by decide) rfl (Nat.le_of_ble_eq_true rfl) dL_law_513 (fun r1 σ1 h1 => ?_)
  obtain ⟨e1, hx1, hf1⟩ := h1
  have hm1 := hm.oth hf1
  refine g_aload_n C dL_law_516 rfl rfl ?_
  refine g_aload_n C dL_law_517 rfl rfl ?_
  refine g_iload_n C dL_law_518 rfl rfl ?_
  refine g_iconst C dL_law_519 ic_1 ?_
  refine g_iaddv (v := nI (i + 1)) C (nj_plus i 1) dL_law_520 ?_
  refine g_sld C hX (lw_in (by omega) hL) dL_law_521 ?_
  refine g_callVI (rest := [.int r1]) C mv_L_71 (ct_X5_best l w (Nat.le_of_eq h54.symm) σ1 a kp tk nl lt qn qs rf hm1 (xs (nI (i + 1)).toNatClampNeg)) (Nat.lt_of_lt_of_le (by decide) (Nat.le_of_eq h54.symm)) rfl rfl (by decide) rfl (Nat.le_of_ble_eq_true rfl) dL_law_522 (fun r2 σ2 h2 => ?_)
  obtain ⟨e2, hm2, hf2⟩ := h2
  have hx2 := hx1.oth hf2
  refine g_icmp_eq (tgt := 849) C dL_law_525 (by decide) (fun _ => (k K rfl rfl rfl (Nat.le_succ _) (Nat.le_add_right _ 46) σ2 _ hx2 hm2)) (fun z => absurd (e1.trans e2.symm) z)
set_option maxRecDepth 100000 in
set_option maxHeartbeats 4000000 in
theorem lc_buying {l : Launch} {w : WD} (h54 : wN w = 54) {K : KT} (C : OK l w K code 4 RL 1312 600000 7302250) {b L : Nat} {xs : Nat → Int32} (hX : SX K b L xs) {i : Nat} (hi : i + 3 ≤ L) (hL : L ≤ 1536) (hc1 : K.2.1.2.1 + 1 ≤ 600000) (hc2 : K.2.1.2.2 + 46 ≤ 7302250) {σ : SG} {A : AS} (hx : CX σ A) (hm : CM σ A) (k : ∀ K' : KT, K'.1 = K.1 → K'.2.2 = K.2.2 → K'.2.1.1 = K.2.1.1 → K'.2.1.2.1 ≤ K.2.1.2.1 + 1 → K'.2.1.2.2 ≤ K.2.1.2.2 + 46 → ∀ (τ : SG) (B : AS), CX τ B → CM τ B → G l w K' 849 (lwV w b i) [] τ) : G l w K 530 (lwV w b i) [] σ := by
  obtain ⟨a, kp, tk, ⟨nl, lt⟩, ⟨qn, qs⟩, rf⟩ := A
  refine g_aload_n C dL_law_530 rfl rfl ?_
  refine g_aload_n C dL_law_531 rfl rfl ?_
  refine g_iload_n C dL_law_532 rfl rfl ?_
  refine g_iconst C dL_law_533 ic_1 ?_
  refine g_iaddv (v := nI (i + 1)) C (nj_plus i 1) dL_law_534 ?_
  refine g_sld C hX (lw_in (by omega) hL) dL_law_535 ?_
  refine g_callVI (rest := []) C mv_L_72 (ct_X4_buying l w (Nat.le_of_eq h54.symm) σ a kp tk nl lt qn qs rf hx (xs (nI (i + 1)).toNatClampNeg)) (Nat.lt_of_lt_of_le (by decide) (Nat.le_of_eq h54.symm)) rfl rfl (by decide) rfl (Nat.le_of_ble_eq_true rfl) dL_law_536 (fun r1 σ1 h1 => ?_)
  obtain ⟨e1, hx1, hf1⟩ := h1
  have hm1 := hm.oth hf1
  refine g_aload_n C dL_law_539 rfl rfl ?_
  refine g_aload_n C dL_law_540 rfl rfl ?_
  refine g_iload_n C dL_law_541 rfl rfl ?_
  refine g_iconst C dL_law_542 ic_1 ?_
  refine g_iaddv (v := nI (i + 1)) C (nj_plus i 1) dL_law_543 ?_
  refine g_sld C hX (lw_in (by omega) hL) dL_law_544 ?_
  refine g_callVI (rest := [.int r1]) C mv_L_75 (ct_X5_buying l w (Nat.le_of_eq h54.symm) σ1 a kp tk nl lt qn qs rf hm1 (xs (nI (i + 1)).toNatClampNeg)) (Nat.lt_of_lt_of_le (by decide) (Nat.le_of_eq h54.symm)) rfl rfl (by decide) rfl (Nat.le_of_ble_eq_true rfl) dL_law_545 (fun r2 σ2 h2 => ?_)
  obtain ⟨e2, hm2, hf2⟩ := h2
  have hx2 := hx1.oth hf2
  refine g_icmp_eq (tgt := 849) C dL_law_548 (by decide) (fun _ => (k K rfl rfl rfl (Nat.le_succ _) (Nat.le_add_right _ 46) σ2 _ hx2 hm2)) (fun z => absurd (e1.trans e2.symm) z)
set_option maxRecDepth 100000 in
set_option maxHeartbeats 4000000 in
theorem lc_close {l : Launch} {w : WD} (h54 : wN w = 54) {K : KT} (C : OK l w K code 4 RL 1312 600000 7302250) {b L : Nat} {xs : Nat → Int32} (hX : SX K b L xs) {i : Nat} (hi : i + 3 ≤ L) (hL : L ≤ 1536) (hc1 : K.2.1.2.1 + 1 ≤ 600000) (hc2 : K.2.1.2.2 + 46 ≤ 7302250) {σ : SG} {A : AS} (hx : CX σ A) (hm : CM σ A) (k : ∀ K' : KT, K'.1 = K.1 → K'.2.2 = K.2.2 → K'.2.1.1 = K.2.1.1 → K'.2.1.2.1 ≤ K.2.1.2.1 + 1 → K'.2.1.2.2 ≤ K.2.1.2.2 + 46 → ∀ (τ : SG) (B : AS), CX τ B → CM τ B → G l w K' 849 (lwV w b i) [] τ) : G l w K 553 (lwV w b i) [] σ := by
  obtain ⟨a, kp, tk, ⟨nl, lt⟩, ⟨qn, qs⟩, rf⟩ := A
  refine g_aload_n C dL_law_553 rfl rfl ?_
  refine g_callVI (rest := []) C mv_L_76 (ct_X4_close l w (Nat.le_of_eq h54.symm) σ a kp tk nl lt qn qs rf hx) (Nat.lt_of_lt_of_le (by decide) (Nat.le_of_eq h54.symm)) rfl rfl (by decide) rfl (Nat.le_of_ble_eq_true rfl) dL_law_554 (fun r1 σ1 h1 => ?_)
  obtain ⟨e1, hx1, hf1⟩ := h1
  have hm1 := hm.oth hf1
  refine g_aload_n C dL_law_557 rfl rfl ?_
  refine g_callVI (rest := [.int r1]) C mv_L_79 (ct_X5_close l w (Nat.le_of_eq h54.symm) σ1 a kp tk nl lt qn qs rf hm1) (Nat.lt_of_lt_of_le (by decide) (Nat.le_of_eq h54.symm)) rfl rfl (by decide) rfl (Nat.le_of_ble_eq_true rfl) dL_law_558 (fun r2 σ2 h2 => ?_)
  obtain ⟨e2, hm2, hf2⟩ := h2
  have hx2 := hx1.oth hf2
  refine g_icmp_eq (tgt := 849) C dL_law_561 (by decide) (fun _ => (k K rfl rfl rfl (Nat.le_succ _) (Nat.le_add_right _ 46) σ2 _ hx2 hm2)) (fun z => absurd (e1.trans e2.symm) z)
set_option maxRecDepth 100000 in
set_option maxHeartbeats 4000000 in
theorem lc_half {l : Launch} {w : WD} (h54 : wN w = 54) {K : KT} (C : OK l w K code 4 RL 1312 600000 7302250) {b L : Nat} {xs : Nat → Int32} (hX : SX K b L xs) {i : Nat} (hi : i + 3 ≤ L) (hL : L ≤ 1536) (hc1 : K.2.1.2.1 + 1 ≤ 600000) (hc2 : K.2.1.2.2 + 46 ≤ 7302250) {σ : SG} {A : AS} (hx : CX σ A) (hm : CM σ A) (k : ∀ K' : KT, K'.1 = K.1 → K'.2.2 = K.2.2 → K'.2.1.1 = K.2.1.1 → K'.2.1.2.1 ≤ K.2.1.2.1 + 1 → K'.2.1.2.2 ≤ K.2.1.2.2 + 46 → ∀ (τ : SG) (B : AS), CX τ B → CM τ B → G l w K' 849 (lwV w b i) [] τ) : G l w K 566 (lwV w b i) [] σ := by
  obtain ⟨a, kp, tk, ⟨nl, lt⟩, ⟨qn, qs⟩, rf⟩ := A
  refine g_aload_n C dL_law_566 rfl rfl ?_
  refine g_aload_n C dL_law_567 rfl rfl ?_
  refine g_iload_n C dL_law_568 rfl rfl ?_
  refine g_iconst C dL_law_569 ic_1 ?_
  refine g_iaddv (v := nI (i + 1)) C (nj_plus i 1) dL_law_570 ?_
  refine g_sld C hX (lw_in (by omega) hL) dL_law_571 ?_
  refine g_callVI (rest := []) C mv_L_80 (ct_X4_half l w (Nat.le_of_eq h54.symm) σ a kp tk nl lt qn qs rf hx (xs (nI (i + 1)).toNatClampNeg)) (Nat.lt_of_lt_of_le (by decide) (Nat.le_of_eq h54.symm)) rfl rfl (by decide) rfl (Nat.le_of_ble_eq_true rfl) dL_law_572 (fun r1 σ1 h1 => ?_)
  obtain ⟨e1, hx1, hf1⟩ := h1
  have hm1 := hm.oth hf1
  refine g_aload_n C dL_law_575 rfl rfl ?_
  refine g_aload_n C dL_law_576 rfl rfl ?_
  refine g_iload_n C dL_law_577 rfl rfl ?_
  refine g_iconst C dL_law_578 ic_1 ?_
  refine g_iaddv (v := nI (i + 1)) C (nj_plus i 1) dL_law_579 ?_
  refine g_sld C hX (lw_in (by omega) hL) dL_law_580 ?_
  refine g_callVI (rest := [.int r1]) C mv_L_83 (ct_X5_half l w (Nat.le_of_eq h54.symm) σ1 a kp tk nl lt qn qs rf hm1 (xs (nI (i + 1)).toNatClampNeg)) (Nat.lt_of_lt_of_le (by decide) (Nat.le_of_eq h54.symm)) rfl rfl (by decide) rfl (Nat.le_of_ble_eq_true rfl) dL_law_581 (fun r2 σ2 h2 => ?_)
  obtain ⟨e2, hm2, hf2⟩ := h2
  have hx2 := hx1.oth hf2
  refine g_icmp_eq (tgt := 849) C dL_law_584 (by decide) (fun _ => (k K rfl rfl rfl (Nat.le_succ _) (Nat.le_add_right _ 46) σ2 _ hx2 hm2)) (fun z => absurd (e1.trans e2.symm) z)
set_option maxRecDepth 100000 in
set_option maxHeartbeats 4000000 in
theorem lc_pays {l : Launch} {w : WD} (h54 : wN w = 54) {K : KT} (C : OK l w K code 4 RL 1312 600000 7302250) {b L : Nat} {xs : Nat → Int32} (hX : SX K b L xs) {i : Nat} (hi : i + 3 ≤ L) (hL : L ≤ 1536) (hc1 : K.2.1.2.1 + 1 ≤ 600000) (hc2 : K.2.1.2.2 + 46 ≤ 7302250) {σ : SG} {A : AS} (hx : CX σ A) (hm : CM σ A) (k : ∀ K' : KT, K'.1 = K.1 → K'.2.2 = K.2.2 → K'.2.1.1 = K.2.1.1 → K'.2.1.2.1 ≤ K.2.1.2.1 + 1 → K'.2.1.2.2 ≤ K.2.1.2.2 + 46 → ∀ (τ : SG) (B : AS), CX τ B → CM τ B → G l w K' 849 (lwV w b i) [] τ) : G l w K 589 (lwV w b i) [] σ := by
  obtain ⟨a, kp, tk, ⟨nl, lt⟩, ⟨qn, qs⟩, rf⟩ := A
  refine g_aload_n C dL_law_589 rfl rfl ?_
  refine g_aload_n C dL_law_590 rfl rfl ?_
  refine g_iload_n C dL_law_591 rfl rfl ?_
  refine g_iconst C dL_law_592 ic_1 ?_
  refine g_iaddv (v := nI (i + 1)) C (nj_plus i 1) dL_law_593 ?_
  refine g_sld C hX (lw_in (by omega) hL) dL_law_594 ?_
  refine g_callVI (rest := []) C mv_L_84 (ct_X4_pays l w (Nat.le_of_eq h54.symm) σ a kp tk nl lt qn qs rf hx (xs (nI (i + 1)).toNatClampNeg)) (Nat.lt_of_lt_of_le (by decide) (Nat.le_of_eq h54.symm)) rfl rfl (by decide) rfl (Nat.le_of_ble_eq_true rfl) dL_law_595 (fun r1 σ1 h1 => ?_)
  obtain ⟨e1, hx1, hf1⟩ := h1
  have hm1 := hm.oth hf1
  refine g_aload_n C dL_law_598 rfl rfl ?_
  refine g_aload_n C dL_law_599 rfl rfl ?_
  refine g_iload_n C dL_law_600 rfl rfl ?_
  refine g_iconst C dL_law_601 ic_1 ?_
  refine g_iaddv (v := nI (i + 1)) C (nj_plus i 1) dL_law_602 ?_
  refine g_sld C hX (lw_in (by omega) hL) dL_law_603 ?_
  refine g_callVI (rest := [.int r1]) C mv_L_87 (ct_X5_pays l w (Nat.le_of_eq h54.symm) σ1 a kp tk nl lt qn qs rf hm1 (xs (nI (i + 1)).toNatClampNeg)) (Nat.lt_of_lt_of_le (by decide) (Nat.le_of_eq h54.symm)) rfl rfl (by decide) rfl (Nat.le_of_ble_eq_true rfl) dL_law_604 (fun r2 σ2 h2 => ?_)
  obtain ⟨e2, hm2, hf2⟩ := h2
  have hx2 := hx1.oth hf2
  refine g_icmp_eq (tgt := 849) C dL_law_607 (by decide) (fun _ => (k K rfl rfl rfl (Nat.le_succ _) (Nat.le_add_right _ 46) σ2 _ hx2 hm2)) (fun z => absurd (e1.trans e2.symm) z)
set_option maxRecDepth 100000 in
set_option maxHeartbeats 4000000 in
theorem lc_mean {l : Launch} {w : WD} (h54 : wN w = 54) {K : KT} (C : OK l w K code 4 RL 1312 600000 7302250) {b L : Nat} {xs : Nat → Int32} (hX : SX K b L xs) {i : Nat} (hi : i + 3 ≤ L) (hL : L ≤ 1536) (hc1 : K.2.1.2.1 + 1 ≤ 600000) (hc2 : K.2.1.2.2 + 46 ≤ 7302250) {σ : SG} {A : AS} (hx : CX σ A) (hm : CM σ A) (k : ∀ K' : KT, K'.1 = K.1 → K'.2.2 = K.2.2 → K'.2.1.1 = K.2.1.1 → K'.2.1.2.1 ≤ K.2.1.2.1 + 1 → K'.2.1.2.2 ≤ K.2.1.2.2 + 46 → ∀ (τ : SG) (B : AS), CX τ B → CM τ B → G l w K' 849 (lwV w b i) [] τ) : G l w K 612 (lwV w b i) [] σ := by
  obtain ⟨a, kp, tk, ⟨nl, lt⟩, ⟨qn, qs⟩, rf⟩ := A
  refine g_aload_n C dL_law_612 rfl rfl ?_
  refine g_aload_n C dL_law_613 rfl rfl ?_
  refine g_iload_n C dL_law_614 rfl rfl ?_
  refine g_iconst C dL_law_615 ic_1 ?_
  refine g_iaddv (v := nI (i + 1)) C (nj_plus i 1) dL_law_616 ?_
  refine g_sld C hX (lw_in (by omega) hL) dL_law_617 ?_
  refine g_callVL (rest := []) C mv_L_88 (ct_X4_mean l w (Nat.le_of_eq h54.symm) σ a kp tk nl lt qn qs rf hx (xs (nI (i + 1)).toNatClampNeg)) (Nat.lt_of_lt_of_le (by decide) (Nat.le_of_eq h54.symm)) rfl rfl (by decide) rfl (Nat.le_of_ble_eq_true rfl) dL_law_618 (fun r1 σ1 h1 => ?_)
  obtain ⟨e1, hx1, hf1⟩ := h1
  have hm1 := hm.oth hf1
  refine g_aload_n C dL_law_621 rfl rfl ?_
  refine g_aload_n C dL_law_622 rfl rfl ?_
  refine g_iload_n C dL_law_623 rfl rfl ?_
  refine g_iconst C dL_law_624 ic_1 ?_
  refine g_iaddv (v := nI (i + 1)) C (nj_plus i 1) dL_law_625 ?_
  refine g_sld C hX (lw_in (by omega) hL) dL_law_626 ?_
  refine g_callVL (rest := [.long r1]) C mv_L_92 (ct_X5_mean l w (Nat.le_of_eq h54.symm) σ1 a kp tk nl lt qn qs rf hm1 (xs (nI (i + 1)).toNatClampNeg)) (Nat.lt_of_lt_of_le (by decide) (Nat.le_of_eq h54.symm)) rfl rfl (by decide) rfl (Nat.le_of_ble_eq_true rfl) dL_law_627 (fun r2 σ2 h2 => ?_)
  obtain ⟨e2, hm2, hf2⟩ := h2
  have hx2 := hx1.oth hf2
  refine g_lcmp C dL_law_630 ?_
  rw [e1.trans e2.symm, lw_cmp]
  refine g_if_eq (tgt := 849) C dL_law_631 (by decide) (fun _ => (k K rfl rfl rfl (Nat.le_succ _) (Nat.le_add_right _ 46) σ2 _ hx2 hm2)) (fun z => absurd rfl z)
set_option maxRecDepth 100000 in
set_option maxHeartbeats 4000000 in
theorem lc_likes {l : Launch} {w : WD} (h54 : wN w = 54) {K : KT} (C : OK l w K code 4 RL 1312 600000 7302250) {b L : Nat} {xs : Nat → Int32} (hX : SX K b L xs) {i : Nat} (hi : i + 3 ≤ L) (hL : L ≤ 1536) (hc1 : K.2.1.2.1 + 1 ≤ 600000) (hc2 : K.2.1.2.2 + 46 ≤ 7302250) {σ : SG} {A : AS} (hx : CX σ A) (hm : CM σ A) (k : ∀ K' : KT, K'.1 = K.1 → K'.2.2 = K.2.2 → K'.2.1.1 = K.2.1.1 → K'.2.1.2.1 ≤ K.2.1.2.1 + 1 → K'.2.1.2.2 ≤ K.2.1.2.2 + 46 → ∀ (τ : SG) (B : AS), CX τ B → CM τ B → G l w K' 849 (lwV w b i) [] τ) : G l w K 636 (lwV w b i) [] σ := by
  obtain ⟨a, kp, tk, ⟨nl, lt⟩, ⟨qn, qs⟩, rf⟩ := A
  refine g_aload_n C dL_law_636 rfl rfl ?_
  refine g_aload_n C dL_law_637 rfl rfl ?_
  refine g_iload_n C dL_law_638 rfl rfl ?_
  refine g_iconst C dL_law_639 ic_1 ?_
  refine g_iaddv (v := nI (i + 1)) C (nj_plus i 1) dL_law_640 ?_
  refine g_sld C hX (lw_in (by omega) hL) dL_law_641 ?_
  refine g_callVI (rest := []) C mv_L_93 (ct_X4_likes l w (Nat.le_of_eq h54.symm) σ a kp tk nl lt qn qs rf hx (xs (nI (i + 1)).toNatClampNeg)) (Nat.lt_of_lt_of_le (by decide) (Nat.le_of_eq h54.symm)) rfl rfl (by decide) rfl (Nat.le_of_ble_eq_true rfl) dL_law_642 (fun r1 σ1 h1 => ?_)
  obtain ⟨e1, hx1, hf1⟩ := h1
  have hm1 := hm.oth hf1
  refine g_aload_n C dL_law_645 rfl rfl ?_
  refine g_aload_n C dL_law_646 rfl rfl ?_
  refine g_iload_n C dL_law_647 rfl rfl ?_
  refine g_iconst C dL_law_648 ic_1 ?_
  refine g_iaddv (v := nI (i + 1)) C (nj_plus i 1) dL_law_649 ?_
  refine g_sld C hX (lw_in (by omega) hL) dL_law_650 ?_
  refine g_callVI (rest := [.int r1]) C mv_L_96 (ct_X5_likes l w (Nat.le_of_eq h54.symm) σ1 a kp tk nl lt qn qs rf hm1 (xs (nI (i + 1)).toNatClampNeg)) (Nat.lt_of_lt_of_le (by decide) (Nat.le_of_eq h54.symm)) rfl rfl (by decide) rfl (Nat.le_of_ble_eq_true rfl) dL_law_651 (fun r2 σ2 h2 => ?_)
  obtain ⟨e2, hm2, hf2⟩ := h2
  have hx2 := hx1.oth hf2
  refine g_icmp_eq (tgt := 849) C dL_law_654 (by decide) (fun _ => (k K rfl rfl rfl (Nat.le_succ _) (Nat.le_add_right _ 46) σ2 _ hx2 hm2)) (fun z => absurd (e1.trans e2.symm) z)
set_option maxRecDepth 100000 in
set_option maxHeartbeats 4000000 in
theorem lc_whose {l : Launch} {w : WD} (h54 : wN w = 54) {K : KT} (C : OK l w K code 4 RL 1312 600000 7302250) {b L : Nat} {xs : Nat → Int32} (hX : SX K b L xs) {i : Nat} (hi : i + 3 ≤ L) (hL : L ≤ 1536) (hc1 : K.2.1.2.1 + 1 ≤ 600000) (hc2 : K.2.1.2.2 + 46 ≤ 7302250) {σ : SG} {A : AS} (hx : CX σ A) (hm : CM σ A) (k : ∀ K' : KT, K'.1 = K.1 → K'.2.2 = K.2.2 → K'.2.1.1 = K.2.1.1 → K'.2.1.2.1 ≤ K.2.1.2.1 + 1 → K'.2.1.2.2 ≤ K.2.1.2.2 + 46 → ∀ (τ : SG) (B : AS), CX τ B → CM τ B → G l w K' 849 (lwV w b i) [] τ) : G l w K 659 (lwV w b i) [] σ := by
  obtain ⟨a, kp, tk, ⟨nl, lt⟩, ⟨qn, qs⟩, rf⟩ := A
  refine g_aload_n C dL_law_659 rfl rfl ?_
  refine g_aload_n C dL_law_660 rfl rfl ?_
  refine g_iload_n C dL_law_661 rfl rfl ?_
  refine g_iconst C dL_law_662 ic_1 ?_
  refine g_iaddv (v := nI (i + 1)) C (nj_plus i 1) dL_law_663 ?_
  refine g_sld C hX (lw_in (by omega) hL) dL_law_664 ?_
  refine g_callVI (rest := []) C mv_L_97 (ct_X4_whose l w (Nat.le_of_eq h54.symm) σ a kp tk nl lt qn qs rf hx (xs (nI (i + 1)).toNatClampNeg)) (Nat.lt_of_lt_of_le (by decide) (Nat.le_of_eq h54.symm)) rfl rfl (by decide) rfl (Nat.le_of_ble_eq_true rfl) dL_law_665 (fun r1 σ1 h1 => ?_)
  obtain ⟨e1, hx1, hf1⟩ := h1
  have hm1 := hm.oth hf1
  refine g_aload_n C dL_law_668 rfl rfl ?_
  refine g_aload_n C dL_law_669 rfl rfl ?_
  refine g_iload_n C dL_law_670 rfl rfl ?_
  refine g_iconst C dL_law_671 ic_1 ?_
  refine g_iaddv (v := nI (i + 1)) C (nj_plus i 1) dL_law_672 ?_
  refine g_sld C hX (lw_in (by omega) hL) dL_law_673 ?_
  refine g_callVI (rest := [.int r1]) C mv_L_100 (ct_X5_whose l w (Nat.le_of_eq h54.symm) σ1 a kp tk nl lt qn qs rf hm1 (xs (nI (i + 1)).toNatClampNeg)) (Nat.lt_of_lt_of_le (by decide) (Nat.le_of_eq h54.symm)) rfl rfl (by decide) rfl (Nat.le_of_ble_eq_true rfl) dL_law_674 (fun r2 σ2 h2 => ?_)
  obtain ⟨e2, hm2, hf2⟩ := h2
  have hx2 := hx1.oth hf2
  refine g_icmp_eq (tgt := 849) C dL_law_677 (by decide) (fun _ => (k K rfl rfl rfl (Nat.le_succ _) (Nat.le_add_right _ 46) σ2 _ hx2 hm2)) (fun z => absurd (e1.trans e2.symm) z)
set_option maxRecDepth 100000 in
set_option maxHeartbeats 4000000 in
theorem lc_share {l : Launch} {w : WD} (h54 : wN w = 54) {K : KT} (C : OK l w K code 4 RL 1312 600000 7302250) {b L : Nat} {xs : Nat → Int32} (hX : SX K b L xs) {i : Nat} (hi : i + 3 ≤ L) (hL : L ≤ 1536) (hc1 : K.2.1.2.1 + 1 ≤ 600000) (hc2 : K.2.1.2.2 + 46 ≤ 7302250) {σ : SG} {A : AS} (hx : CX σ A) (hm : CM σ A) (k : ∀ K' : KT, K'.1 = K.1 → K'.2.2 = K.2.2 → K'.2.1.1 = K.2.1.1 → K'.2.1.2.1 ≤ K.2.1.2.1 + 1 → K'.2.1.2.2 ≤ K.2.1.2.2 + 46 → ∀ (τ : SG) (B : AS), CX τ B → CM τ B → G l w K' 849 (lwV w b i) [] τ) : G l w K 682 (lwV w b i) [] σ := by
  obtain ⟨a, kp, tk, ⟨nl, lt⟩, ⟨qn, qs⟩, rf⟩ := A
  refine g_aload_n C dL_law_682 rfl rfl ?_
  refine g_callVI (rest := []) C mv_L_101 (ct_X4_share l w (Nat.le_of_eq h54.symm) σ a kp tk nl lt qn qs rf hx) (Nat.lt_of_lt_of_le (by decide) (Nat.le_of_eq h54.symm)) rfl rfl (by decide) rfl (Nat.le_of_ble_eq_true rfl) dL_law_683 (fun r1 σ1 h1 => ?_)
  obtain ⟨e1, hx1, hf1⟩ := h1
  have hm1 := hm.oth hf1
  refine g_aload_n C dL_law_686 rfl rfl ?_
  refine g_callVI (rest := [.int r1]) C mv_L_104 (ct_X5_share l w (Nat.le_of_eq h54.symm) σ1 a kp tk nl lt qn qs rf hm1) (Nat.lt_of_lt_of_le (by decide) (Nat.le_of_eq h54.symm)) rfl rfl (by decide) rfl (Nat.le_of_ble_eq_true rfl) dL_law_687 (fun r2 σ2 h2 => ?_)
  obtain ⟨e2, hm2, hf2⟩ := h2
  have hx2 := hx1.oth hf2
  refine g_icmp_eq (tgt := 849) C dL_law_690 (by decide) (fun _ => (k K rfl rfl rfl (Nat.le_succ _) (Nat.le_add_right _ 46) σ2 _ hx2 hm2)) (fun z => absurd (e1.trans e2.symm) z)
set_option maxRecDepth 100000 in
set_option maxHeartbeats 4000000 in
theorem lc_bottles {l : Launch} {w : WD} (h54 : wN w = 54) {K : KT} (C : OK l w K code 4 RL 1312 600000 7302250) {b L : Nat} {xs : Nat → Int32} (hX : SX K b L xs) {i : Nat} (hi : i + 3 ≤ L) (hL : L ≤ 1536) (hc1 : K.2.1.2.1 + 1 ≤ 600000) (hc2 : K.2.1.2.2 + 46 ≤ 7302250) {σ : SG} {A : AS} (hx : CX σ A) (hm : CM σ A) (k : ∀ K' : KT, K'.1 = K.1 → K'.2.2 = K.2.2 → K'.2.1.1 = K.2.1.1 → K'.2.1.2.1 ≤ K.2.1.2.1 + 1 → K'.2.1.2.2 ≤ K.2.1.2.2 + 46 → ∀ (τ : SG) (B : AS), CX τ B → CM τ B → G l w K' 849 (lwV w b i) [] τ) : G l w K 695 (lwV w b i) [] σ := by
  obtain ⟨a, kp, tk, ⟨nl, lt⟩, ⟨qn, qs⟩, rf⟩ := A
  refine g_aload_n C dL_law_695 rfl rfl ?_
  refine g_aload_n C dL_law_696 rfl rfl ?_
  refine g_iload_n C dL_law_697 rfl rfl ?_
  refine g_iconst C dL_law_698 ic_1 ?_
  refine g_iaddv (v := nI (i + 1)) C (nj_plus i 1) dL_law_699 ?_
  refine g_sld C hX (lw_in (by omega) hL) dL_law_700 ?_
  refine g_callVI (rest := []) C mv_L_105 (ct_X4_bottles l w (Nat.le_of_eq h54.symm) σ a kp tk nl lt qn qs rf hx (xs (nI (i + 1)).toNatClampNeg)) (Nat.lt_of_lt_of_le (by decide) (Nat.le_of_eq h54.symm)) rfl rfl (by decide) rfl (Nat.le_of_ble_eq_true rfl) dL_law_701 (fun r1 σ1 h1 => ?_)
  obtain ⟨e1, hx1, hf1⟩ := h1
  have hm1 := hm.oth hf1
  refine g_aload_n C dL_law_704 rfl rfl ?_
  refine g_aload_n C dL_law_705 rfl rfl ?_
  refine g_iload_n C dL_law_706 rfl rfl ?_
  refine g_iconst C dL_law_707 ic_1 ?_
  refine g_iaddv (v := nI (i + 1)) C (nj_plus i 1) dL_law_708 ?_
  refine g_sld C hX (lw_in (by omega) hL) dL_law_709 ?_
  refine g_callVI (rest := [.int r1]) C mv_L_108 (ct_X5_bottles l w (Nat.le_of_eq h54.symm) σ1 a kp tk nl lt qn qs rf hm1 (xs (nI (i + 1)).toNatClampNeg)) (Nat.lt_of_lt_of_le (by decide) (Nat.le_of_eq h54.symm)) rfl rfl (by decide) rfl (Nat.le_of_ble_eq_true rfl) dL_law_710 (fun r2 σ2 h2 => ?_)
  obtain ⟨e2, hm2, hf2⟩ := h2
  have hx2 := hx1.oth hf2
  refine g_icmp_eq (tgt := 849) C dL_law_713 (by decide) (fun _ => (k K rfl rfl rfl (Nat.le_succ _) (Nat.le_add_right _ 46) σ2 _ hx2 hm2)) (fun z => absurd (e1.trans e2.symm) z)
set_option maxRecDepth 100000 in
set_option maxHeartbeats 4000000 in
theorem lc_row {l : Launch} {w : WD} (h54 : wN w = 54) {K : KT} (C : OK l w K code 4 RL 1312 600000 7302250) {b L : Nat} {xs : Nat → Int32} (hX : SX K b L xs) {i : Nat} (hi : i + 3 ≤ L) (hL : L ≤ 1536) (hc1 : K.2.1.2.1 + 1 ≤ 600000) (hc2 : K.2.1.2.2 + 46 ≤ 7302250) {σ : SG} {A : AS} (hx : CX σ A) (hm : CM σ A) (k : ∀ K' : KT, K'.1 = K.1 → K'.2.2 = K.2.2 → K'.2.1.1 = K.2.1.1 → K'.2.1.2.1 ≤ K.2.1.2.1 + 1 → K'.2.1.2.2 ≤ K.2.1.2.2 + 46 → ∀ (τ : SG) (B : AS), CX τ B → CM τ B → G l w K' 849 (lwV w b i) [] τ) : G l w K 718 (lwV w b i) [] σ := by
  obtain ⟨a, kp, tk, ⟨nl, lt⟩, ⟨qn, qs⟩, rf⟩ := A
  refine g_aload_n C dL_law_718 rfl rfl ?_
  refine g_aload_n C dL_law_719 rfl rfl ?_
  refine g_iload_n C dL_law_720 rfl rfl ?_
  refine g_iconst C dL_law_721 ic_1 ?_
  refine g_iaddv (v := nI (i + 1)) C (nj_plus i 1) dL_law_722 ?_
  refine g_sld C hX (lw_in (by omega) hL) dL_law_723 ?_
  refine g_callVI (rest := []) C mv_L_109 (ct_X4_row l w (Nat.le_of_eq h54.symm) σ a kp tk nl lt qn qs rf hx (xs (nI (i + 1)).toNatClampNeg)) (Nat.lt_of_lt_of_le (by decide) (Nat.le_of_eq h54.symm)) rfl rfl (by decide) rfl (Nat.le_of_ble_eq_true rfl) dL_law_724 (fun r1 σ1 h1 => ?_)
  obtain ⟨e1, hx1, hf1⟩ := h1
  have hm1 := hm.oth hf1
  refine g_aload_n C dL_law_727 rfl rfl ?_
  refine g_aload_n C dL_law_728 rfl rfl ?_
  refine g_iload_n C dL_law_729 rfl rfl ?_
  refine g_iconst C dL_law_730 ic_1 ?_
  refine g_iaddv (v := nI (i + 1)) C (nj_plus i 1) dL_law_731 ?_
  refine g_sld C hX (lw_in (by omega) hL) dL_law_732 ?_
  refine g_callVI (rest := [.int r1]) C mv_L_112 (ct_X5_row l w (Nat.le_of_eq h54.symm) σ1 a kp tk nl lt qn qs rf hm1 (xs (nI (i + 1)).toNatClampNeg)) (Nat.lt_of_lt_of_le (by decide) (Nat.le_of_eq h54.symm)) rfl rfl (by decide) rfl (Nat.le_of_ble_eq_true rfl) dL_law_733 (fun r2 σ2 h2 => ?_)
  obtain ⟨e2, hm2, hf2⟩ := h2
  have hx2 := hx1.oth hf2
  refine g_icmp_eq (tgt := 849) C dL_law_736 (by decide) (fun _ => (k K rfl rfl rfl (Nat.le_succ _) (Nat.le_add_right _ 46) σ2 _ hx2 hm2)) (fun z => absurd (e1.trans e2.symm) z)
set_option maxRecDepth 100000 in
set_option maxHeartbeats 4000000 in
theorem lc_fits {l : Launch} {w : WD} (h54 : wN w = 54) {K : KT} (C : OK l w K code 4 RL 1312 600000 7302250) {b L : Nat} {xs : Nat → Int32} (hX : SX K b L xs) {i : Nat} (hi : i + 3 ≤ L) (hL : L ≤ 1536) (hc1 : K.2.1.2.1 + 1 ≤ 600000) (hc2 : K.2.1.2.2 + 46 ≤ 7302250) {σ : SG} {A : AS} (hx : CX σ A) (hm : CM σ A) (k : ∀ K' : KT, K'.1 = K.1 → K'.2.2 = K.2.2 → K'.2.1.1 = K.2.1.1 → K'.2.1.2.1 ≤ K.2.1.2.1 + 1 → K'.2.1.2.2 ≤ K.2.1.2.2 + 46 → ∀ (τ : SG) (B : AS), CX τ B → CM τ B → G l w K' 849 (lwV w b i) [] τ) : G l w K 741 (lwV w b i) [] σ := by
  obtain ⟨a, kp, tk, ⟨nl, lt⟩, ⟨qn, qs⟩, rf⟩ := A
  refine g_aload_n C dL_law_741 rfl rfl ?_
  refine g_callVI (rest := []) C mv_L_113 (ct_X4_fits l w (Nat.le_of_eq h54.symm) σ a kp tk nl lt qn qs rf hx) (Nat.lt_of_lt_of_le (by decide) (Nat.le_of_eq h54.symm)) rfl rfl (by decide) rfl (Nat.le_of_ble_eq_true rfl) dL_law_742 (fun r1 σ1 h1 => ?_)
  obtain ⟨e1, hx1, hf1⟩ := h1
  have hm1 := hm.oth hf1
  refine g_aload_n C dL_law_745 rfl rfl ?_
  refine g_callVI (rest := [.int r1]) C mv_L_116 (ct_X5_fits l w (Nat.le_of_eq h54.symm) σ1 a kp tk nl lt qn qs rf hm1) (Nat.lt_of_lt_of_le (by decide) (Nat.le_of_eq h54.symm)) rfl rfl (by decide) rfl (Nat.le_of_ble_eq_true rfl) dL_law_746 (fun r2 σ2 h2 => ?_)
  obtain ⟨e2, hm2, hf2⟩ := h2
  have hx2 := hx1.oth hf2
  refine g_icmp_eq (tgt := 849) C dL_law_749 (by decide) (fun _ => (k K rfl rfl rfl (Nat.le_succ _) (Nat.le_add_right _ 46) σ2 _ hx2 hm2)) (fun z => absurd (e1.trans e2.symm) z)
set_option maxRecDepth 100000 in
set_option maxHeartbeats 4000000 in
theorem lc_judge {l : Launch} {w : WD} (h54 : wN w = 54) {K : KT} (C : OK l w K code 4 RL 1312 600000 7302250) {b L : Nat} {xs : Nat → Int32} (hX : SX K b L xs) {i : Nat} (hi : i + 3 ≤ L) (hL : L ≤ 1536) (hc1 : K.2.1.2.1 + 1 ≤ 600000) (hc2 : K.2.1.2.2 + 46 ≤ 7302250) {σ : SG} {A : AS} (hx : CX σ A) (hm : CM σ A) (k : ∀ K' : KT, K'.1 = K.1 → K'.2.2 = K.2.2 → K'.2.1.1 = K.2.1.1 → K'.2.1.2.1 ≤ K.2.1.2.1 + 1 → K'.2.1.2.2 ≤ K.2.1.2.2 + 46 → ∀ (τ : SG) (B : AS), CX τ B → CM τ B → G l w K' 849 (lwV w b i) [] τ) : G l w K 754 (lwV w b i) [] σ := by
  obtain ⟨a, kp, tk, ⟨nl, lt⟩, ⟨qn, qs⟩, rf⟩ := A
  refine g_aload_n C dL_law_754 rfl rfl ?_
  refine g_callVI (rest := []) C mv_L_117 (ct_X4_judge l w (Nat.le_of_eq h54.symm) σ a kp tk nl lt qn qs rf hx) (Nat.lt_of_lt_of_le (by decide) (Nat.le_of_eq h54.symm)) rfl rfl (by decide) rfl (Nat.le_of_ble_eq_true rfl) dL_law_755 (fun r1 σ1 h1 => ?_)
  obtain ⟨e1, hx1, hf1⟩ := h1
  have hm1 := hm.oth hf1
  refine g_aload_n C dL_law_758 rfl rfl ?_
  refine g_callVI (rest := [.int r1]) C mv_L_120 (ct_X5_judge l w (Nat.le_of_eq h54.symm) σ1 a kp tk nl lt qn qs rf hm1) (Nat.lt_of_lt_of_le (by decide) (Nat.le_of_eq h54.symm)) rfl rfl (by decide) rfl (Nat.le_of_ble_eq_true rfl) dL_law_759 (fun r2 σ2 h2 => ?_)
  obtain ⟨e2, hm2, hf2⟩ := h2
  have hx2 := hx1.oth hf2
  refine g_icmp_eq (tgt := 849) C dL_law_762 (by decide) (fun _ => (k K rfl rfl rfl (Nat.le_succ _) (Nat.le_add_right _ 46) σ2 _ hx2 hm2)) (fun z => absurd (e1.trans e2.symm) z)
set_option maxRecDepth 100000 in
set_option maxHeartbeats 4000000 in
theorem lc_lots {l : Launch} {w : WD} (h54 : wN w = 54) {K : KT} (C : OK l w K code 4 RL 1312 600000 7302250) {b L : Nat} {xs : Nat → Int32} (hX : SX K b L xs) {i : Nat} (hi : i + 3 ≤ L) (hL : L ≤ 1536) (hc1 : K.2.1.2.1 + 1 ≤ 600000) (hc2 : K.2.1.2.2 + 46 ≤ 7302250) {σ : SG} {A : AS} (hx : CX σ A) (hm : CM σ A) (k : ∀ K' : KT, K'.1 = K.1 → K'.2.2 = K.2.2 → K'.2.1.1 = K.2.1.1 → K'.2.1.2.1 ≤ K.2.1.2.1 + 1 → K'.2.1.2.2 ≤ K.2.1.2.2 + 46 → ∀ (τ : SG) (B : AS), CX τ B → CM τ B → G l w K' 849 (lwV w b i) [] τ) : G l w K 767 (lwV w b i) [] σ := by
  obtain ⟨a, kp, tk, ⟨nl, lt⟩, ⟨qn, qs⟩, rf⟩ := A
  refine g_aload_n C dL_law_767 rfl rfl ?_
  refine g_aload_n C dL_law_768 rfl rfl ?_
  refine g_iload_n C dL_law_769 rfl rfl ?_
  refine g_iconst C dL_law_770 ic_1 ?_
  refine g_iaddv (v := nI (i + 1)) C (nj_plus i 1) dL_law_771 ?_
  refine g_sld C hX (lw_in (by omega) hL) dL_law_772 ?_
  refine g_aload_n C dL_law_773 rfl rfl ?_
  refine g_iload_n C dL_law_774 rfl rfl ?_
  refine g_iconst C dL_law_775 ic_2 ?_
  refine g_iaddv (v := nI (i + 2)) C (nj_plus i 2) dL_law_776 ?_
  refine g_sld C hX (lw_in (by omega) hL) dL_law_777 ?_
  refine g_callVI (rest := []) C mv_L_121 (ct_X4_lots l w (Nat.le_of_eq h54.symm) σ a kp tk nl lt qn qs rf hx (xs (nI (i + 1)).toNatClampNeg) (xs (nI (i + 2)).toNatClampNeg)) (Nat.lt_of_lt_of_le (by decide) (Nat.le_of_eq h54.symm)) rfl rfl (by decide) rfl (Nat.le_of_ble_eq_true rfl) dL_law_778 (fun r1 σ1 h1 => ?_)
  obtain ⟨e1, hx1, hf1⟩ := h1
  have hm1 := hm.oth hf1
  refine g_aload_n C dL_law_781 rfl rfl ?_
  refine g_aload_n C dL_law_782 rfl rfl ?_
  refine g_iload_n C dL_law_783 rfl rfl ?_
  refine g_iconst C dL_law_784 ic_1 ?_
  refine g_iaddv (v := nI (i + 1)) C (nj_plus i 1) dL_law_785 ?_
  refine g_sld C hX (lw_in (by omega) hL) dL_law_786 ?_
  refine g_aload_n C dL_law_787 rfl rfl ?_
  refine g_iload_n C dL_law_788 rfl rfl ?_
  refine g_iconst C dL_law_789 ic_2 ?_
  refine g_iaddv (v := nI (i + 2)) C (nj_plus i 2) dL_law_790 ?_
  refine g_sld C hX (lw_in (by omega) hL) dL_law_791 ?_
  refine g_callVI (rest := [.int r1]) C mv_L_124 (ct_X5_lots l w (Nat.le_of_eq h54.symm) σ1 a kp tk nl lt qn qs rf hm1 (xs (nI (i + 1)).toNatClampNeg) (xs (nI (i + 2)).toNatClampNeg)) (Nat.lt_of_lt_of_le (by decide) (Nat.le_of_eq h54.symm)) rfl rfl (by decide) rfl (Nat.le_of_ble_eq_true rfl) dL_law_792 (fun r2 σ2 h2 => ?_)
  obtain ⟨e2, hm2, hf2⟩ := h2
  have hx2 := hx1.oth hf2
  refine g_icmp_eq (tgt := 849) C dL_law_795 (by decide) (fun _ => (k K rfl rfl rfl (Nat.le_succ _) (Nat.le_add_right _ 46) σ2 _ hx2 hm2)) (fun z => absurd (e1.trans e2.symm) z)
set_option maxRecDepth 100000 in
set_option maxHeartbeats 4000000 in
theorem lc_image {l : Launch} {w : WD} (h54 : wN w = 54) {K : KT} (C : OK l w K code 4 RL 1312 600000 7302250) {b L : Nat} {xs : Nat → Int32} (hX : SX K b L xs) {i : Nat} (hi : i + 3 ≤ L) (hL : L ≤ 1536) (hc1 : K.2.1.2.1 + 1 ≤ 600000) (hc2 : K.2.1.2.2 + 46 ≤ 7302250) {σ : SG} {A : AS} (hx : CX σ A) (hm : CM σ A) (k : ∀ K' : KT, K'.1 = K.1 → K'.2.2 = K.2.2 → K'.2.1.1 = K.2.1.1 → K'.2.1.2.1 ≤ K.2.1.2.1 + 1 → K'.2.1.2.2 ≤ K.2.1.2.2 + 46 → ∀ (τ : SG) (B : AS), CX τ B → CM τ B → G l w K' 849 (lwV w b i) [] τ) : G l w K 800 (lwV w b i) [] σ := by
  obtain ⟨a, kp, tk, ⟨nl, lt⟩, ⟨qn, qs⟩, rf⟩ := A
  refine g_aload_n C dL_law_800 rfl rfl ?_
  refine g_callVI (rest := []) C mv_L_125 (ct_X4_image l w (Nat.le_of_eq h54.symm) σ a kp tk nl lt qn qs rf hx) (Nat.lt_of_lt_of_le (by decide) (Nat.le_of_eq h54.symm)) rfl rfl (by decide) rfl (Nat.le_of_ble_eq_true rfl) dL_law_801 (fun r1 σ1 h1 => ?_)
  obtain ⟨e1, hx1, hf1⟩ := h1
  have hm1 := hm.oth hf1
  refine g_aload_n C dL_law_804 rfl rfl ?_
  refine g_callVI (rest := [.int r1]) C mv_L_128 (ct_X5_image l w (Nat.le_of_eq h54.symm) σ1 a kp tk nl lt qn qs rf hm1) (Nat.lt_of_lt_of_le (by decide) (Nat.le_of_eq h54.symm)) rfl rfl (by decide) rfl (Nat.le_of_ble_eq_true rfl) dL_law_805 (fun r2 σ2 h2 => ?_)
  obtain ⟨e2, hm2, hf2⟩ := h2
  have hx2 := hx1.oth hf2
  refine g_icmp_eq (tgt := 849) C dL_law_808 (by decide) (fun _ => (k K rfl rfl rfl (Nat.le_succ _) (Nat.le_add_right _ 46) σ2 _ hx2 hm2)) (fun z => absurd (e1.trans e2.symm) z)
set_option maxRecDepth 100000 in
set_option maxHeartbeats 4000000 in
theorem lc_on {l : Launch} {w : WD} (h54 : wN w = 54) {K : KT} (C : OK l w K code 4 RL 1312 600000 7302250) {b L : Nat} {xs : Nat → Int32} (hX : SX K b L xs) {i : Nat} (hi : i + 3 ≤ L) (hL : L ≤ 1536) (hc1 : K.2.1.2.1 + 1 ≤ 600000) (hc2 : K.2.1.2.2 + 46 ≤ 7302250) {σ : SG} {A : AS} (hx : CX σ A) (hm : CM σ A) (k : ∀ K' : KT, K'.1 = K.1 → K'.2.2 = K.2.2 → K'.2.1.1 = K.2.1.1 → K'.2.1.2.1 ≤ K.2.1.2.1 + 1 → K'.2.1.2.2 ≤ K.2.1.2.2 + 46 → ∀ (τ : SG) (B : AS), CX τ B → CM τ B → G l w K' 849 (lwV w b i) [] τ) : G l w K 813 (lwV w b i) [] σ := by
  obtain ⟨a, kp, tk, ⟨nl, lt⟩, ⟨qn, qs⟩, rf⟩ := A
  refine g_aload_n C dL_law_813 rfl rfl ?_
  refine g_callVI (rest := []) C mv_L_129 (ct_X4_on l w (Nat.le_of_eq h54.symm) σ a kp tk nl lt qn qs rf hx) (Nat.lt_of_lt_of_le (by decide) (Nat.le_of_eq h54.symm)) rfl rfl (by decide) rfl (Nat.le_of_ble_eq_true rfl) dL_law_814 (fun r1 σ1 h1 => ?_)
  obtain ⟨e1, hx1, hf1⟩ := h1
  have hm1 := hm.oth hf1
  refine g_aload_n C dL_law_817 rfl rfl ?_
  refine g_callVI (rest := [.int r1]) C mv_L_132 (ct_X5_on l w (Nat.le_of_eq h54.symm) σ1 a kp tk nl lt qn qs rf hm1) (Nat.lt_of_lt_of_le (by decide) (Nat.le_of_eq h54.symm)) rfl rfl (by decide) rfl (Nat.le_of_ble_eq_true rfl) dL_law_818 (fun r2 σ2 h2 => ?_)
  obtain ⟨e2, hm2, hf2⟩ := h2
  have hx2 := hx1.oth hf2
  refine g_icmp_eq (tgt := 849) C dL_law_821 (by decide) (fun _ => (k K rfl rfl rfl (Nat.le_succ _) (Nat.le_add_right _ 46) σ2 _ hx2 hm2)) (fun z => absurd (e1.trans e2.symm) z)
set_option maxRecDepth 100000 in
set_option maxHeartbeats 4000000 in
theorem lc_count {l : Launch} {w : WD} (h54 : wN w = 54) {K : KT} (C : OK l w K code 4 RL 1312 600000 7302250) {b L : Nat} {xs : Nat → Int32} (hX : SX K b L xs) {i : Nat} (hi : i + 3 ≤ L) (hL : L ≤ 1536) (hc1 : K.2.1.2.1 + 1 ≤ 600000) (hc2 : K.2.1.2.2 + 46 ≤ 7302250) {σ : SG} {A : AS} (hx : CX σ A) (hm : CM σ A) (k : ∀ K' : KT, K'.1 = K.1 → K'.2.2 = K.2.2 → K'.2.1.1 = K.2.1.1 → K'.2.1.2.1 ≤ K.2.1.2.1 + 1 → K'.2.1.2.2 ≤ K.2.1.2.2 + 46 → ∀ (τ : SG) (B : AS), CX τ B → CM τ B → G l w K' 849 (lwV w b i) [] τ) : G l w K 826 (lwV w b i) [] σ := by
  obtain ⟨a, kp, tk, ⟨nl, lt⟩, ⟨qn, qs⟩, rf⟩ := A
  refine g_aload_n C dL_law_826 rfl rfl ?_
  refine g_aload_n C dL_law_827 rfl rfl ?_
  refine g_iload_n C dL_law_828 rfl rfl ?_
  refine g_iconst C dL_law_829 ic_1 ?_
  refine g_iaddv (v := nI (i + 1)) C (nj_plus i 1) dL_law_830 ?_
  refine g_sld C hX (lw_in (by omega) hL) dL_law_831 ?_
  refine g_callVI (rest := []) C mv_L_133 (ct_X4_count l w (Nat.le_of_eq h54.symm) σ a kp tk nl lt qn qs rf hx (xs (nI (i + 1)).toNatClampNeg)) (Nat.lt_of_lt_of_le (by decide) (Nat.le_of_eq h54.symm)) rfl rfl (by decide) rfl (Nat.le_of_ble_eq_true rfl) dL_law_832 (fun r1 σ1 h1 => ?_)
  obtain ⟨e1, hx1, hf1⟩ := h1
  have hm1 := hm.oth hf1
  refine g_aload_n C dL_law_835 rfl rfl ?_
  refine g_aload_n C dL_law_836 rfl rfl ?_
  refine g_iload_n C dL_law_837 rfl rfl ?_
  refine g_iconst C dL_law_838 ic_1 ?_
  refine g_iaddv (v := nI (i + 1)) C (nj_plus i 1) dL_law_839 ?_
  refine g_sld C hX (lw_in (by omega) hL) dL_law_840 ?_
  refine g_callVI (rest := [.int r1]) C mv_L_136 (ct_X5_count l w (Nat.le_of_eq h54.symm) σ1 a kp tk nl lt qn qs rf hm1 (xs (nI (i + 1)).toNatClampNeg)) (Nat.lt_of_lt_of_le (by decide) (Nat.le_of_eq h54.symm)) rfl rfl (by decide) rfl (Nat.le_of_ble_eq_true rfl) dL_law_841 (fun r2 σ2 h2 => ?_)
  obtain ⟨e2, hm2, hf2⟩ := h2
  have hx2 := hx1.oth hf2
  refine g_icmp_eq (tgt := 849) C dL_law_844 (by decide) (fun _ => (k K rfl rfl rfl (Nat.le_succ _) (Nat.le_add_right _ 46) σ2 _ hx2 hm2)) (fun z => absurd (e1.trans e2.symm) z)
