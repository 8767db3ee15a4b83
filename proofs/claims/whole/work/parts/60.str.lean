/-! ===== the texts: words and rows ===== -/
def MW (own : String) (idx : Nat) (y : MethodName) (bytes : ByteArray) (maxL : Nat) (ret : Option FieldType) (n : Nat) : Prop := Cond.methodLink own idx y ∈ gt ∧ Cond.instanceMethod y ∈ gt ∧ Cond.selects y.cls y y ∈ gt ∧ Cond.initialized y.cls ∈ gt ∧ Cond.code y bytes maxL ret ∈ gt ∧ dOK y n ∧ maxL ≤ 40 ∧ y.cls = "java/lang/String"
theorem mw_w {R : Room} {s : State} {args : Array Value} {own : String} {idx : Nat} {y : MethodName} {bytes : ByteArray} {maxL : Nat} {ret : Option FieldType} {n d d' mc ms mc' ms' : Nat} (h : MW own idx y bytes maxL ret n) (hts : ∀ x ∈ gt, x.before args s = true) (hR : R = rmv d mc ms) (hd : d' + 1 ≤ d) : CallW R s args own y.cls idx y bytes maxL ret (Cond.code y bytes maxL ret :: gt) (rmv d' mc' ms') mc' ms' n := by
  obtain ⟨h1, h2, h3, h4, h5, h6, h7, -⟩ := h
  refine ⟨callB_of n hts (gt_goodIn h5) rfl rfl rfl (hts _ h4) (hts _ h1) h6 ⟨?_, ?_⟩, hts _ h2, hts _ h3⟩
  · subst hR; exact hd
  · subst hR; show 8 + (maxL + 11) + 64 * d' ≤ 64 * d; omega
abbrev sK (w : WD) (i : Nat) : Nat := w.2.2.2.2.2.1 i
abbrev sV (w : WD) (i : Nat) : Nat := w.2.2.2.2.2.2 i
def txL (i : Nat) : Nat := txLen.getD i 0
def txN (i j : Nat) : Nat := ((txByt.getD i []).getD j 0).toNatClampNeg
theorem tx_ok {i j : Nat} (hi : i < 8) (hj : j < txL i) : (txByt.getD i []).getD j 0 = nI (txN i j) ∧ txN i j < 128 := by
  have key : ∀ (i : Fin 8) (j : Fin 8), j.val < txL i.val → (txByt.getD i.val []).getD j.val 0 = nI (txN i.val j.val) ∧ txN i.val j.val < 128 := by decide +kernel
  have h8 : ∀ i : Fin 8, txL i.val ≤ 8 := by decide
  have := h8 ⟨i, hi⟩
  exact key ⟨i, hi⟩ ⟨j, by show j < 8; have h9 : txL i ≤ 8 := this; omega⟩ hj
theorem tx_l8 {i : Nat} (hi : i < 8) : txL i ≤ 8 := by
  have h8 : ∀ i : Fin 8, txL i.val ≤ 8 := by decide
  exact h8 ⟨i, hi⟩
section GR
variable {l : Launch} {w : WD} {K : KT} {cc : ByteArray} {own : String} {nl d mc ms pc : Nat} {lv : List (Nat × Value)} {st : List Value} {σ : SG}
theorem g_ldcs {idx i : Nat} {tx : String} (C : OK l w K cc nl RX2 d mc ms) (hi : i < 8) (hk : txKey.getD i (0, "") = (idx, tx)) (hd : decode cc pc = .ok (.ldc idx, 2)) (k : G l w K (pc + 2) lv (.ref (sK w i) :: st) σ) : G l w K pc lv st σ := by
  obtain ⟨⟨p, e, R, s, m, args, below, meth, c⟩, ⟨nL, cells, slots⟩, Q, A⟩ := K
  obtain ⟨⟨hx, hb, hml, hown, hts⟩, hK, hj, hA, hST, hlk, hR, hn, hmc, hms⟩ := C
  intro H ls locs hl hP hS
  have hZ := hST.2.2.1.2.1 i hi
  rw [hk] at hZ
  exact va_ldcS hx hb hown hZ hd (k H ls locs hl hP hS)
theorem g_strv {idx i : Nat} (C : OK l w K cc nl own d mc ms) (hi : i < 8) (hF : Cond.fieldLink own idx "java/lang/String" "value" "[B" ∈ gt) (hd : decode cc pc = .ok (.getfield idx, 3)) (k : G l w K (pc + 3) lv (.ref (sV w i) :: st) σ) : G l w K pc lv (.ref (sK w i) :: st) σ := by
  obtain ⟨⟨p, e, R, s, m, args, below, meth, c⟩, ⟨nL, cells, slots⟩, Q, A⟩ := K
  obtain ⟨⟨hx, hb, hml, hown, hts⟩, hK, hj, hA, hST, hlk, hR, hn, hmc, hms⟩ := C
  intro H ls locs hl hP hS
  exact vk_getf hx hb (hST.2.2.1.1.1 i hi).2.2.1 hS hown (hts _ hF) (fun _ q => q) hd (k H ls locs hl hP hS)
theorem g_strc {idx i : Nat} (C : OK l w K cc nl own d mc ms) (hi : i < 8) (hF : Cond.fieldLink own idx "java/lang/String" "coder" "B" ∈ gt) (hd : decode cc pc = .ok (.getfield idx, 3)) (k : G l w K (pc + 3) lv (.int 0 :: st) σ) : G l w K pc lv (.ref (sK w i) :: st) σ := by
  obtain ⟨⟨p, e, R, s, m, args, below, meth, c⟩, ⟨nL, cells, slots⟩, Q, A⟩ := K
  obtain ⟨⟨hx, hb, hml, hown, hts⟩, hK, hj, hA, hST, hlk, hR, hn, hmc, hms⟩ := C
  intro H ls locs hl hP hS
  exact vk_getf hx hb (hST.2.2.1.1.1 i hi).2.1 hS hown (hts _ hF) (fun _ q => q) hd (k H ls locs hl hP hS)
theorem g_getcs {idx : Nat} (C : OK l w K cc nl own d mc ms) (hF : Cond.fieldLink own idx "java/lang/String" "COMPACT_STRINGS" "Z" ∈ gt) (hd : decode cc pc = .ok (.getstatic idx, 3)) (k : G l w K (pc + 3) lv (.int 1 :: st) σ) : G l w K pc lv st σ := by
  obtain ⟨⟨p, e, R, s, m, args, below, meth, c⟩, ⟨nL, cells, slots⟩, Q, A⟩ := K
  obtain ⟨⟨hx, hb, hml, hown, hts⟩, hK, hj, hA, hST, hlk, hR, hn, hmc, hms⟩ := C
  intro H ls locs hl hP hS
  exact va_gets hx hb hST.2.2.1.2.2.1 hS hown (hts _ hF) (fun _ q => q) hd (k H ls locs hl hP hS)
theorem g_getsi {idx : Nat} (C : OK l w K cc nl own d mc ms) (hF : Cond.fieldLink own idx "jdk/internal/util/Preconditions" "SIOOBE_FORMATTER" "Ljava/util/function/BiFunction;" ∈ gt) (hd : decode cc pc = .ok (.getstatic idx, 3)) (k : ∀ v : Value, (v = .null ∨ ∃ t, v = .ref t) → G l w K (pc + 3) lv (v :: st) σ) : G l w K pc lv st σ := by
  obtain ⟨⟨p, e, R, s, m, args, below, meth, c⟩, ⟨nL, cells, slots⟩, Q, A⟩ := K
  obtain ⟨⟨hx, hb, hml, hown, hts⟩, hK, hj, hA, hST, hlk, hR, hn, hmc, hms⟩ := C
  intro H ls locs hl hP hS
  rcases hST.2.2.1.2.2.2 with hZ | ⟨t, hZ⟩
  · exact va_gets hx hb hZ hS hown (hts _ hF) (fun _ q => q) hd (k _ (Or.inl rfl) H ls locs hl hP hS)
  · exact va_gets hx hb hZ hS hown (hts _ hF) (fun _ q => q) hd (k _ (Or.inr ⟨t, rfl⟩) H ls locs hl hP hS)
theorem g_blen {i : Nat} (C : OK l w K cc nl own d mc ms) (hi : i < 8) (hd : decode cc pc = .ok (.arraylength, 1)) (k : G l w K (pc + 1) lv (.int (nI (txL i)) :: st) σ) : G l w K pc lv (.ref (sV w i) :: st) σ := by
  obtain ⟨⟨p, e, R, s, m, args, below, meth, c⟩, ⟨nL, cells, slots⟩, Q, A⟩ := K
  obtain ⟨⟨hx, hb, hml, hown, hts⟩, hK, hj, hA, hST, hlk, hR, hn, hmc, hms⟩ := C
  intro H ls locs hl hP hS
  exact va_tlen hx hb (hST.2.2.1.1.1 i hi).2.2.2 hS rfl hd (k H ls locs hl hP hS)
theorem g_bald {i j : Nat} {x : Int32} (C : OK l w K cc nl own d mc ms) (hi : i < 8) (hin : ix x (txL i) j) (hd : decode cc pc = .ok (.baload, 1)) (k : G l w K (pc + 1) lv (.int (nI (txN i j)) :: st) σ) : G l w K pc lv (.int x :: .ref (sV w i) :: st) σ := by
  obtain ⟨⟨p, e, R, s, m, args, below, meth, c⟩, ⟨nL, cells, slots⟩, Q, A⟩ := K
  obtain ⟨⟨hx, hb, hml, hown, hts⟩, hK, hj, hA, hST, hlk, hR, hn, hmc, hms⟩ := C
  intro H ls locs hl hP hS
  have h1 := (tx_ok hi hin.2.2).1
  exact va_tb hx hb (hST.2.2.1.1.1 i hi).2.2.2 hS hin.vp (v := .int (nI (txN i j))) (by rw [hin.2.1]; exact congrArg Value.int h1) hd (k H ls locs hl hP hS)
theorem g_i2b {x v : Int32} (C : OK l w K cc nl own d mc ms) (hd : decode cc pc = .ok (.i2b, 1)) (hv : x.toInt8.toInt32 = v) (k : G l w K (pc + 1) lv (.int v :: st) σ) : G l w K pc lv (.int x :: st) σ := by
  obtain ⟨⟨p, e, R, s, m, args, below, meth, c⟩, ⟨nL, cells, slots⟩, Q, A⟩ := K
  obtain ⟨⟨hx, hb, hml, hown, hts⟩, hK, hj, hA, hST, hlk, hR, hn, hmc, hms⟩ := C
  intro H ls locs hl hP hS
  exact lv_i2b hx hb hd hv (k H ls locs hl hP hS)
theorem g_callWI {y : MethodName} {bytes : ByteArray} {maxL n idx d' i : Nat} {ret : Option FieldType} {As rest stk : List Value} {post : Int32 → SG → Prop} (C : OK l w K cc nl own d mc ms) (hm : MW own idx y bytes maxL ret n) (hi : i < 8) (ct : CtI l w y bytes maxL ret d' 0 0 (.ref (sK w i) :: As) σ post) (hAs : As.length = n) (hd' : d' + 1 ≤ d) (hst : stk = As.reverse ++ .ref (sK w i) :: rest) (hcat : (rest.map fun v => v.category).sum ≤ 8) (hd : decode cc pc = .ok (.invokevirtual idx, 3)) (k : ∀ (r : Int32) (τ : SG), post r τ → G l w K (pc + 3) lv (.int r :: rest) τ) : G l w K pc lv stk σ := by
  obtain ⟨⟨p, e, R, s, m, args, below, meth, c⟩, ⟨nL, cells, slots⟩, Q, A⟩ := K
  obtain ⟨⟨hx, hb, hml, hown, hts⟩, hK, hj, hA, hST, hlk, hR, hn, hmc, hms⟩ := C
  subst hst
  intro H ls locs hl hP hS
  have hT := hm.2.2.2.2.2.2.2
  have hF := pA_sub hj hA hS
  refine va_calli (A1 := pA w H.size) (va_runV (As := As) (rest := rest) (C := y.cls) (b := sK w i) ⟨hx, hb, hml, hown, hts⟩ (ct H.size) (mw_w hm hts hR hd') ⟨Pin.blind, by rw [hT]; exact vk_recv hST.2.2.1.1 hi hS, fun U hU hW => ⟨rfl, Pin.of hK hj hA hST hP hS hU hW⟩⟩ rfl hAs hl.1 rfl (lv_room hcat) hd ⟨?_, ?_⟩) hS (fun q _ h => hF q h) hF (fun r τ t H1 locs1 ht hvm hw hB hz1 hk1 hS1 => by subst ht; exact k r τ hw _ ls locs1 hl hB hS1)
  · subst hR; exact hmc
  · subst hR; exact hms
theorem g_pWI {y : MethodName} {bytes : ByteArray} {maxL n idx d' i : Nat} {ret : Option FieldType} {As rest stk : List Value} {v : Int32} (C : OK l w K cc nl own d mc ms) (hm : MW own idx y bytes maxL ret n) (hi : i < 8) (ct : CtI l w y bytes maxL ret d' 0 0 (.ref (sK w i) :: As) σ (fun r τ => r = v ∧ τ = σ)) (hAs : As.length = n) (hd' : d' + 1 ≤ d) (hst : stk = As.reverse ++ .ref (sK w i) :: rest) (hcat : (rest.map fun v => v.category).sum ≤ 8) (hd : decode cc pc = .ok (.invokevirtual idx, 3)) (k : G l w K (pc + 3) lv (.int v :: rest) σ) : G l w K pc lv stk σ := g_callWI C hm hi ct hAs hd' hst hcat hd (fun r τ h => by obtain ⟨e1, e2⟩ := h; subst e1; subst e2; exact k)
/-! an answer that is a text -/
def RR (w : WD) : KT → String → (SG → Nat → Prop) → Prop
  | ((_, _, _, s, _, args, below, meth, _), (_, cells, slots), Q, A), cn, post => meth.sig.returnType = some (.object cn) ∧ Q = MQ below (va_Qr (fun _ : SG => True) (fun σ' a t => post σ' a ∧ Pout w σ' t) A) args s cells slots A
theorem CtR.mk {y : MethodName} {maxL : Nat} {cn : String} {As : List Value} {post : SG → Nat → Prop} (hy : plainName y.cls = true) (hA : (lg_sl As).length ≤ maxL)
    (body : ∀ (K : KT), OK l w K cc maxL y.cls d mc ms → (∀ K' : KT, K'.1 = K.1 → K'.2.2 = K.2.2 → K'.2.1.2 = (mc, ms) → RR w K' cn post) → K.2.1.2 = (0, 0) → G l w K 0 (lv_args 0 As) [] σ) : CtR l w y cc maxL (some (.object cn)) d mc ms As σ post := by
  intro sz
  refine Met.ofW (cc := cc) (maxL := maxL) (ret := some (.object cn)) hy rfl ?_
  intro p e s m args below meth c s₁ B hml hv
  obtain ⟨rfl, hsz, hP, hK, hj, hst⟩ := hv
  subst hsz
  have hts : ∀ x ∈ gt, x.before As.toArray s = true := fun x hx => atoms_spec B.pre x (List.mem_cons_of_mem _ hx)
  have h := body ((p, e, rmv d mc ms, s, m, As.toArray, below, meth, c), (maxL, 0, 0), MQ below (va_Qr (fun _ : SG => True) (fun σ' a t => post σ' a ∧ Pout w σ' t) (pA w s.heap.size)) As.toArray s mc ms (pA w s.heap.size), pA w s.heap.size)
    ⟨⟨B.exec, B.bytes, hml, findClass_of_methodNamed B.named, hts⟩, hK, pA_of hj, fun q hq => Or.inr hq, hst, B.notSynchronized, rfl, rfl, Nat.zero_le _, Nat.zero_le _⟩
    (by
      rintro ⟨⟨p', e', R', s', m', a', b', me', c'⟩, ⟨n', ce', sl'⟩, Q', A'⟩ h1 h2 h3
      cases h1; cases h2; cases h3
      exact ⟨B.returns, rfl⟩) rfl
  have hl := lv_entry As (n := maxL) hA
  rw [lg_entry_eq]
  exact h s.heap _ [] hl hP va_S.rf
theorem RR.of {cn : String} {post : SG → Nat → Prop} (h : ∀ K' : KT, K'.1 = K.1 → K'.2.2 = K.2.2 → K'.2.1.2 = (0, 0) → RR w K' cn post) (h0 : K.2.1.2 = (0, 0)) : RR w K cn post := h K rfl rfl h0
theorem g_aret {cn : String} {post : SG → Nat → Prop} {a : Nat} (C : OK l w K cc nl own d mc ms) (r : RR w K cn post) (hd : decode cc pc = .ok (.areturn, 1)) (h : post σ a) : G l w K pc lv [.ref a] σ := by
  obtain ⟨⟨p, e, R, s, m, args, below, meth, c⟩, ⟨nL, cells, slots⟩, Q, A⟩ := K
  obtain ⟨⟨hx, hb, hml, hown, hts⟩, hK, hj, hA, hST, hlk, hR, hn, hmc, hms⟩ := C
  obtain ⟨hr, hQ⟩ := r
  subst hQ
  intro H ls locs hl hP hS
  exact W.aret hx hb hr (Or.inl ⟨cn, rfl⟩) (Or.inr ⟨a, rfl⟩) (fun t ht hW => ⟨⟨σ, a, rfl, trivial, h, by show va_P _ _ _ t.heap; rw [ht]; exact hP⟩, hS.F ht⟩) hS.2.2 hd hlk
theorem g_callSR {y : MethodName} {bytes : ByteArray} {maxL n idx d' : Nat} {ret : Option FieldType} {As rest stk : List Value} {post : SG → Nat → Prop} (C : OK l w K cc nl own d mc ms) (hm : MS own idx y bytes maxL ret n) (ct : CtR l w y bytes maxL ret d' 0 0 As σ post) (hAs : As.length = n) (hd' : d' + 1 ≤ d) (hst : stk = As.reverse ++ rest) (hcat : (rest.map fun v => v.category).sum ≤ 8) (hd : decode cc pc = .ok (.invokestatic idx, 3)) (k : ∀ (r : Nat) (τ : SG), post τ r → G l w K (pc + 3) lv (.ref r :: rest) τ) : G l w K pc lv stk σ := by
  obtain ⟨⟨p, e, R, s, m, args, below, meth, c⟩, ⟨nL, cells, slots⟩, Q, A⟩ := K
  obtain ⟨⟨hx, hb, hml, hown, hts⟩, hK, hj, hA, hST, hlk, hR, hn, hmc, hms⟩ := C
  subst hst
  intro H ls locs hl hP hS
  have hF := pA_sub hj hA hS
  refine va_callr (A1 := pA w H.size) (va_runS (As := As) (rest := rest) ⟨hx, hb, hml, hown, hts⟩ (ct H.size) (ms_w hm hts hR hd') ⟨Pin.blind, fun U hU hW => ⟨rfl, Pin.of hK hj hA hST hP hS hU hW⟩⟩ rfl hAs hl.1 rfl (lv_room hcat) hd ⟨?_, ?_⟩) hS (fun q _ h => hF q h) hF (fun τ r t H1 locs1 ht hvm _ hB hz1 hk1 hS1 => by subst ht; exact k r τ hB.1 _ ls locs1 hl hB.2 hS1)
  · subst hR; exact hmc
  · subst hR; exact hms
end GR
set_option maxRecDepth 100000 in
theorem cw_yJ0_coder_7d493 : Cond.code yJ0_coder_7d493 cJ0_coder_7d493 1 (some .byte) ∈ gt := (gt_in (w := Cond.code yJ0_coder_7d493 cJ0_coder_7d493 1 (some .byte)) 221 rfl (by decide +kernel))
theorem dk_yJ0_coder_7d493 : dOK yJ0_coder_7d493 0 := ⟨by decide, by decide, by decide +kernel⟩
set_option maxRecDepth 100000 in
theorem cw_yJ0_isLatin1_aae02 : Cond.code yJ0_isLatin1_aae02 cJ0_isLatin1_aae02 1 (some .boolean) ∈ gt := (gt_in (w := Cond.code yJ0_isLatin1_aae02 cJ0_isLatin1_aae02 1 (some .boolean)) 243 rfl (by decide +kernel))
theorem dk_yJ0_isLatin1_aae02 : dOK yJ0_isLatin1_aae02 0 := ⟨by decide, by decide, by decide +kernel⟩
set_option maxRecDepth 100000 in
theorem cw_yJ0_indexOf_7cf53 : Cond.code yJ0_indexOf_7cf53 cJ0_indexOf_7cf53 3 (some .int) ∈ gt := (gt_in (w := Cond.code yJ0_indexOf_7cf53 cJ0_indexOf_7cf53 3 (some .int)) 288 rfl (by decide +kernel))
theorem dk_yJ0_indexOf_7cf53 : dOK yJ0_indexOf_7cf53 2 := ⟨by decide, by decide, by decide +kernel⟩
set_option maxRecDepth 100000 in
theorem cw_yJ0_checkIndex_df160 : Cond.code yJ0_checkIndex_df160 cJ0_checkIndex_df160 2 none ∈ gt := (gt_in (w := Cond.code yJ0_checkIndex_df160 cJ0_checkIndex_df160 2 none) 249 rfl (by decide +kernel))
theorem dk_yJ0_checkIndex_df160 : dOK yJ0_checkIndex_df160 2 := ⟨by decide, by decide, by decide +kernel⟩
set_option maxRecDepth 100000 in
theorem cw_yJ1_charAt_3b067 : Cond.code yJ1_charAt_3b067 cJ1_charAt_3b067 2 (some .char) ∈ gt := (gt_in (w := Cond.code yJ1_charAt_3b067 cJ1_charAt_3b067 2 (some .char)) 246 rfl (by decide +kernel))
theorem dk_yJ1_charAt_3b067 : dOK yJ1_charAt_3b067 2 := ⟨by decide, by decide, by decide +kernel⟩
set_option maxRecDepth 100000 in
theorem cw_yJ3_checkIndex_8e157 : Cond.code yJ3_checkIndex_8e157 cJ3_checkIndex_8e157 3 (some .int) ∈ gt := (gt_in (w := Cond.code yJ3_checkIndex_8e157 cJ3_checkIndex_8e157 3 (some .int)) 254 rfl (by decide +kernel))
theorem dk_yJ3_checkIndex_8e157 : dOK yJ3_checkIndex_8e157 3 := ⟨by decide, by decide, by decide +kernel⟩
set_option maxRecDepth 100000 in
theorem cw_yJ1_indexOf_4cfef : Cond.code yJ1_indexOf_4cfef cJ1_indexOf_4cfef 4 (some .int) ∈ gt := (gt_in (w := Cond.code yJ1_indexOf_4cfef cJ1_indexOf_4cfef 4 (some .int)) 292 rfl (by decide +kernel))
theorem dk_yJ1_indexOf_4cfef : dOK yJ1_indexOf_4cfef 4 := ⟨by decide, by decide, by decide +kernel⟩
set_option maxRecDepth 100000 in
theorem cw_yJ1_canEncode_9a6ad : Cond.code yJ1_canEncode_9a6ad cJ1_canEncode_9a6ad 1 (some .boolean) ∈ gt := (gt_in (w := Cond.code yJ1_canEncode_9a6ad cJ1_canEncode_9a6ad 1 (some .boolean)) 295 rfl (by decide +kernel))
theorem dk_yJ1_canEncode_9a6ad : dOK yJ1_canEncode_9a6ad 1 := ⟨by decide, by decide, by decide +kernel⟩
set_option maxRecDepth 100000 in
theorem cw_yJ1_indexOfChar_4cfef : Cond.code yJ1_indexOfChar_4cfef cJ1_indexOfChar_4cfef 6 (some .int) ∈ gt := (gt_in (w := Cond.code yJ1_indexOfChar_4cfef cJ1_indexOfChar_4cfef 6 (some .int)) 304 rfl (by decide +kernel))
theorem dk_yJ1_indexOfChar_4cfef : dOK yJ1_indexOfChar_4cfef 4 := ⟨by decide, by decide, by decide +kernel⟩
theorem ini_RJ1 : Cond.initialized RJ1 ∈ gt := (gt_in (w := Cond.initialized RJ1) 46 (by decide +kernel) (by decide +kernel))
theorem ini_RJ3 : Cond.initialized RJ3 ∈ gt := (gt_in (w := Cond.initialized RJ3) 47 (by decide +kernel) (by decide +kernel))
theorem mw_J0_335 : MW RJ0 335 yJ0_coder_7d493 cJ0_coder_7d493 1 (some .byte) 0 := ⟨(gt_in (w := Cond.methodLink RJ0 335 yJ0_coder_7d493) 218 (by decide +kernel) (by decide +kernel)), (gt_in (w := Cond.instanceMethod yJ0_coder_7d493) 219 (by decide +kernel) (by decide +kernel)), (gt_in (w := Cond.selects yJ0_coder_7d493.cls yJ0_coder_7d493 yJ0_coder_7d493) 220 (by decide +kernel) (by decide +kernel)), ini_RJ0, cw_yJ0_coder_7d493, dk_yJ0_coder_7d493, by decide, rfl⟩
theorem mw_J0_492 : MW RJ0 492 yJ0_isLatin1_aae02 cJ0_isLatin1_aae02 1 (some .boolean) 0 := ⟨(gt_in (w := Cond.methodLink RJ0 492 yJ0_isLatin1_aae02) 240 (by decide +kernel) (by decide +kernel)), (gt_in (w := Cond.instanceMethod yJ0_isLatin1_aae02) 241 (by decide +kernel) (by decide +kernel)), (gt_in (w := Cond.selects yJ0_isLatin1_aae02.cls yJ0_isLatin1_aae02 yJ0_isLatin1_aae02) 242 (by decide +kernel) (by decide +kernel)), ini_RJ0, cw_yJ0_isLatin1_aae02, dk_yJ0_isLatin1_aae02, by decide, rfl⟩
theorem mw_J0_633 : MW RJ0 633 yJ0_indexOf_7cf53 cJ0_indexOf_7cf53 3 (some .int) 2 := ⟨(gt_in (w := Cond.methodLink RJ0 633 yJ0_indexOf_7cf53) 285 (by decide +kernel) (by decide +kernel)), (gt_in (w := Cond.instanceMethod yJ0_indexOf_7cf53) 286 (by decide +kernel) (by decide +kernel)), (gt_in (w := Cond.selects yJ0_indexOf_7cf53.cls yJ0_indexOf_7cf53 yJ0_indexOf_7cf53) 287 (by decide +kernel) (by decide +kernel)), ini_RJ0, cw_yJ0_indexOf_7cf53, dk_yJ0_indexOf_7cf53, by decide, rfl⟩
theorem mw_J0_505 : MW RJ0 505 yJ0_length_8abf5 cJ0_length_8abf5 1 (some .int) 0 := ⟨(gt_in (w := Cond.methodLink RJ0 505 yJ0_length_8abf5) 289 (by decide +kernel) (by decide +kernel)), (gt_in (w := Cond.instanceMethod yJ0_length_8abf5) 215 (by decide +kernel) (by decide +kernel)), (gt_in (w := Cond.selects yJ0_length_8abf5.cls yJ0_length_8abf5 yJ0_length_8abf5) 216 (by decide +kernel) (by decide +kernel)), ini_RJ0, cw_yJ0_length_8abf5, dk_yJ0_length_8abf5, by decide, rfl⟩
theorem mw_X2_29 : MW RX2 29 yJ0_length_8abf5 cJ0_length_8abf5 1 (some .int) 0 := ⟨(gt_in (w := Cond.methodLink RX2 29 yJ0_length_8abf5) 214 (by decide +kernel) (by decide +kernel)), (gt_in (w := Cond.instanceMethod yJ0_length_8abf5) 215 (by decide +kernel) (by decide +kernel)), (gt_in (w := Cond.selects yJ0_length_8abf5.cls yJ0_length_8abf5 yJ0_length_8abf5) 216 (by decide +kernel) (by decide +kernel)), ini_RJ0, cw_yJ0_length_8abf5, dk_yJ0_length_8abf5, by decide, rfl⟩
theorem mw_X2_39 : MW RX2 39 yJ0_isEmpty_aae02 cJ0_isEmpty_aae02 1 (some .boolean) 0 := ⟨(gt_in (w := Cond.methodLink RX2 39 yJ0_isEmpty_aae02) 232 (by decide +kernel) (by decide +kernel)), (gt_in (w := Cond.instanceMethod yJ0_isEmpty_aae02) 233 (by decide +kernel) (by decide +kernel)), (gt_in (w := Cond.selects yJ0_isEmpty_aae02.cls yJ0_isEmpty_aae02 yJ0_isEmpty_aae02) 234 (by decide +kernel) (by decide +kernel)), ini_RJ0, cw_yJ0_isEmpty_aae02, dk_yJ0_isEmpty_aae02, by decide, rfl⟩
theorem mw_X2_43 : MW RX2 43 yJ0_charAt_5068e cJ0_charAt_5068e 2 (some .char) 1 := ⟨(gt_in (w := Cond.methodLink RX2 43 yJ0_charAt_5068e) 236 (by decide +kernel) (by decide +kernel)), (gt_in (w := Cond.instanceMethod yJ0_charAt_5068e) 237 (by decide +kernel) (by decide +kernel)), (gt_in (w := Cond.selects yJ0_charAt_5068e.cls yJ0_charAt_5068e yJ0_charAt_5068e) 238 (by decide +kernel) (by decide +kernel)), ini_RJ0, cw_yJ0_charAt_5068e, dk_yJ0_charAt_5068e, by decide, rfl⟩
theorem mw_X2_66 : MW RX2 66 yJ0_indexOf_0f7a4 cJ0_indexOf_0f7a4 2 (some .int) 1 := ⟨(gt_in (w := Cond.methodLink RX2 66 yJ0_indexOf_0f7a4) 281 (by decide +kernel) (by decide +kernel)), (gt_in (w := Cond.instanceMethod yJ0_indexOf_0f7a4) 282 (by decide +kernel) (by decide +kernel)), (gt_in (w := Cond.selects yJ0_indexOf_0f7a4.cls yJ0_indexOf_0f7a4 yJ0_indexOf_0f7a4) 283 (by decide +kernel) (by decide +kernel)), ini_RJ0, cw_yJ0_indexOf_0f7a4, dk_yJ0_indexOf_0f7a4, by decide, rfl⟩
theorem ms_J0_495 : MS RJ0 495 yJ1_charAt_3b067 cJ1_charAt_3b067 2 (some .char) 2 := ⟨(gt_in (w := Cond.methodLink RJ0 495 yJ1_charAt_3b067) 244 (by decide +kernel) (by decide +kernel)), (gt_in (w := Cond.static yJ1_charAt_3b067) 245 (by decide +kernel) (by decide +kernel)), ini_RJ1, cw_yJ1_charAt_3b067, dk_yJ1_charAt_3b067, by decide⟩
theorem ms_J1_9 : MS RJ1 9 yJ0_checkIndex_df160 cJ0_checkIndex_df160 2 none 2 := ⟨(gt_in (w := Cond.methodLink RJ1 9 yJ0_checkIndex_df160) 247 (by decide +kernel) (by decide +kernel)), (gt_in (w := Cond.static yJ0_checkIndex_df160) 248 (by decide +kernel) (by decide +kernel)), ini_RJ0, cw_yJ0_checkIndex_df160, dk_yJ0_checkIndex_df160, by decide⟩
theorem ms_J0_1059 : MS RJ0 1059 yJ3_checkIndex_8e157 cJ3_checkIndex_8e157 3 (some .int) 3 := ⟨(gt_in (w := Cond.methodLink RJ0 1059 yJ3_checkIndex_8e157) 252 (by decide +kernel) (by decide +kernel)), (gt_in (w := Cond.static yJ3_checkIndex_8e157) 253 (by decide +kernel) (by decide +kernel)), ini_RJ3, cw_yJ3_checkIndex_8e157, dk_yJ3_checkIndex_8e157, by decide⟩
theorem ms_J0_637 : MS RJ0 637 yJ1_indexOf_4cfef cJ1_indexOf_4cfef 4 (some .int) 4 := ⟨(gt_in (w := Cond.methodLink RJ0 637 yJ1_indexOf_4cfef) 290 (by decide +kernel) (by decide +kernel)), (gt_in (w := Cond.static yJ1_indexOf_4cfef) 291 (by decide +kernel) (by decide +kernel)), ini_RJ1, cw_yJ1_indexOf_4cfef, dk_yJ1_indexOf_4cfef, by decide⟩
theorem ms_J1_88 : MS RJ1 88 yJ1_canEncode_9a6ad cJ1_canEncode_9a6ad 1 (some .boolean) 1 := ⟨(gt_in (w := Cond.methodLink RJ1 88 yJ1_canEncode_9a6ad) 293 (by decide +kernel) (by decide +kernel)), (gt_in (w := Cond.static yJ1_canEncode_9a6ad) 294 (by decide +kernel) (by decide +kernel)), ini_RJ1, cw_yJ1_canEncode_9a6ad, dk_yJ1_canEncode_9a6ad, by decide⟩
theorem ms_J1_95 : MS RJ1 95 yJ1_indexOfChar_4cfef cJ1_indexOfChar_4cfef 6 (some .int) 4 := ⟨(gt_in (w := Cond.methodLink RJ1 95 yJ1_indexOfChar_4cfef) 302 (by decide +kernel) (by decide +kernel)), (gt_in (w := Cond.static yJ1_indexOfChar_4cfef) 303 (by decide +kernel) (by decide +kernel)), ini_RJ1, cw_yJ1_indexOfChar_4cfef, dk_yJ1_indexOfChar_4cfef, by decide⟩
theorem ml_J1_92 : Cond.methodLink RJ1 92 Lib.Math.max.name ∈ gt := (gt_in (w := Cond.methodLink RJ1 92 Lib.Math.max.name) 296 (by decide +kernel) (by decide +kernel))
theorem ml_J1_38 : Cond.methodLink RJ1 38 Lib.Math.min.name ∈ gt := (gt_in (w := Cond.methodLink RJ1 38 Lib.Math.min.name) 299 (by decide +kernel) (by decide +kernel))
theorem fk_J0_9 : Cond.fieldLink RJ0 9 "java/lang/String" "value" "[B" ∈ gt := (gt_in (w := Cond.fieldLink RJ0 9 "java/lang/String" "value" "[B") 960 (by decide +kernel) (by decide +kernel))
theorem fk_J0_15 : Cond.fieldLink RJ0 15 "java/lang/String" "coder" "B" ∈ gt := (gt_in (w := Cond.fieldLink RJ0 15 "java/lang/String" "coder" "B") 961 (by decide +kernel) (by decide +kernel))
theorem fk_J0_38 : Cond.fieldLink RJ0 38 "java/lang/String" "COMPACT_STRINGS" "Z" ∈ gt := (gt_in (w := Cond.fieldLink RJ0 38 "java/lang/String" "COMPACT_STRINGS" "Z") 222 (by decide +kernel) (by decide +kernel))
theorem fk_J0_1053 : Cond.fieldLink RJ0 1053 "jdk/internal/util/Preconditions" "SIOOBE_FORMATTER" "Ljava/util/function/BiFunction;" ∈ gt := (gt_in (w := Cond.fieldLink RJ0 1053 "jdk/internal/util/Preconditions" "SIOOBE_FORMATTER" "Ljava/util/function/BiFunction;") 250 (by decide +kernel) (by decide +kernel))
