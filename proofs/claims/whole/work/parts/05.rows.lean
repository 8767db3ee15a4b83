/-! ===== entry ===== -/
theorem lv_has_swap {ls : Array Slot} {nL : Nat} {lv lv' : List (Nat × Value)} (h : lv_has ls nL lv) (hs : ∀ q ∈ lv', q ∈ lv) : lv_has ls nL lv' := ⟨h.1, h.2.1, fun q hq => h.2.2 q (hs q hq)⟩
theorem pA_of {w : WD} {sz : Nat} (h : pj w (fun _ => True)) : pj w (pA w sz) := ⟨h.1, fun k hk => Or.inl ⟨k, hk, rfl⟩⟩
theorem CtI.mk {l : Launch} {w : WD} {y : MethodName} {cc : ByteArray} {maxL : Nat} {ty : FieldType} {d mc ms : Nat} {As : List Value} {σ : SG} {post : Int32 → SG → Prop} (hy : plainName y.cls = true) (hA : (lg_sl As).length ≤ maxL)
    (body : ∀ (K : KT), OK l w K cc maxL y.cls d mc ms → (∀ K' : KT, K'.1 = K.1 → K'.2.2 = K.2.2 → K'.2.1.2 = (mc, ms) → RI w K' ty post) → K.2.1.2 = (0, 0) → G l w K 0 (lv_args 0 As) [] σ) : CtI l w y cc maxL (some ty) d mc ms As σ post := by
  intro sz
  refine Met.ofW (cc := cc) (maxL := maxL) (ret := some ty) hy rfl ?_
  intro p e s m args below meth c s₁ B hml hv
  obtain ⟨rfl, hsz, hP, hK, hj, hst⟩ := hv
  subst hsz
  have hts : ∀ x ∈ gt, x.before As.toArray s = true := fun x hx => atoms_spec B.pre x (List.mem_cons_of_mem _ hx)
  have h := body ((p, e, rmv d mc ms, s, m, As.toArray, below, meth, c), (maxL, 0, 0), MQ below (va_Qi post (Pout w) (pA w s.heap.size)) As.toArray s mc ms (pA w s.heap.size), pA w s.heap.size)
    ⟨⟨B.exec, B.bytes, hml, findClass_of_methodNamed B.named, hts⟩, hK, pA_of hj, fun q hq => Or.inr hq, hst, B.notSynchronized, rfl, rfl, Nat.zero_le _, Nat.zero_le _⟩
    (by
      rintro ⟨⟨p', e', R', s', m', a', b', me', c'⟩, ⟨n', ce', sl'⟩, Q', A'⟩ h1 h2 h3
      cases h1; cases h2; cases h3
      exact ⟨B.returns, rfl⟩) rfl
  have hl := lv_entry As (n := maxL) hA
  rw [lg_entry_eq]
  exact h s.heap _ [] hl hP va_S.rf
theorem CtV.mk {l : Launch} {w : WD} {y : MethodName} {cc : ByteArray} {maxL : Nat} {d mc ms : Nat} {As : List Value} {σ : SG} {post : SG → Prop} (hy : plainName y.cls = true) (hA : (lg_sl As).length ≤ maxL)
    (body : ∀ (K : KT), OK l w K cc maxL y.cls d mc ms → (∀ K' : KT, K'.1 = K.1 → K'.2.2 = K.2.2 → K'.2.1.2 = (mc, ms) → RV w K' post) → K.2.1.2 = (0, 0) → G l w K 0 (lv_args 0 As) [] σ) : CtV l w y cc maxL d mc ms As σ post := by
  intro sz
  refine Met.ofW (cc := cc) (maxL := maxL) (ret := none) hy rfl ?_
  intro p e s m args below meth c s₁ B hml hv
  obtain ⟨rfl, hsz, hP, hK, hj, hst⟩ := hv
  subst hsz
  have hts : ∀ x ∈ gt, x.before As.toArray s = true := fun x hx => atoms_spec B.pre x (List.mem_cons_of_mem _ hx)
  have h := body ((p, e, rmv d mc ms, s, m, As.toArray, below, meth, c), (maxL, 0, 0), MQ below (va_Qv post (Pout w) (pA w s.heap.size)) As.toArray s mc ms (pA w s.heap.size), pA w s.heap.size)
    ⟨⟨B.exec, B.bytes, hml, findClass_of_methodNamed B.named, hts⟩, hK, pA_of hj, fun q hq => Or.inr hq, hst, B.notSynchronized, rfl, rfl, Nat.zero_le _, Nat.zero_le _⟩
    (by
      rintro ⟨⟨p', e', R', s', m', a', b', me', c'⟩, ⟨n', ce', sl'⟩, Q', A'⟩ h1 h2 h3
      cases h1; cases h2; cases h3
      exact ⟨B.returns, rfl⟩) rfl
  have hl := lv_entry As (n := maxL) hA
  rw [lg_entry_eq]
  exact h s.heap _ [] hl hP va_S.rf
theorem CtL.mk {l : Launch} {w : WD} {y : MethodName} {cc : ByteArray} {maxL : Nat} {d mc ms : Nat} {As : List Value} {σ : SG} {post : Int64 → SG → Prop} (hy : plainName y.cls = true) (hA : (lg_sl As).length ≤ maxL)
    (body : ∀ (K : KT), OK l w K cc maxL y.cls d mc ms → (∀ K' : KT, K'.1 = K.1 → K'.2.2 = K.2.2 → K'.2.1.2 = (mc, ms) → RJ w K' post) → K.2.1.2 = (0, 0) → G l w K 0 (lv_args 0 As) [] σ) : CtL l w y cc maxL d mc ms As σ post := by
  intro sz
  refine Met.ofW (cc := cc) (maxL := maxL) (ret := some .long) hy rfl ?_
  intro p e s m args below meth c s₁ B hml hv
  obtain ⟨rfl, hsz, hP, hK, hj, hst⟩ := hv
  subst hsz
  have hts : ∀ x ∈ gt, x.before As.toArray s = true := fun x hx => atoms_spec B.pre x (List.mem_cons_of_mem _ hx)
  have h := body ((p, e, rmv d mc ms, s, m, As.toArray, below, meth, c), (maxL, 0, 0), MQ below (va_Ql post (Pout w) (pA w s.heap.size)) As.toArray s mc ms (pA w s.heap.size), pA w s.heap.size)
    ⟨⟨B.exec, B.bytes, hml, findClass_of_methodNamed B.named, hts⟩, hK, pA_of hj, fun q hq => Or.inr hq, hst, B.notSynchronized, rfl, rfl, Nat.zero_le _, Nat.zero_le _⟩
    (by
      rintro ⟨⟨p', e', R', s', m', a', b', me', c'⟩, ⟨n', ce', sl'⟩, Q', A'⟩ h1 h2 h3
      cases h1; cases h2; cases h3
      exact ⟨B.returns, rfl⟩) rfl
  have hl := lv_entry As (n := maxL) hA
  rw [lg_entry_eq]
  exact h s.heap _ [] hl hP va_S.rf
/-- where nothing is made the answer's row needs no second K -/
theorem RI.of {w : WD} {K : KT} {ty : FieldType} {post : Int32 → SG → Prop} (h : ∀ K' : KT, K'.1 = K.1 → K'.2.2 = K.2.2 → K'.2.1.2 = (0, 0) → RI w K' ty post) (h0 : K.2.1.2 = (0, 0)) : RI w K ty post := h K rfl rfl h0
theorem RV.of {w : WD} {K : KT} {post : SG → Prop} (h : ∀ K' : KT, K'.1 = K.1 → K'.2.2 = K.2.2 → K'.2.1.2 = (0, 0) → RV w K' post) (h0 : K.2.1.2 = (0, 0)) : RV w K post := h K rfl rfl h0
theorem RJ.of {w : WD} {K : KT} {post : Int64 → SG → Prop} (h : ∀ K' : KT, K'.1 = K.1 → K'.2.2 = K.2.2 → K'.2.1.2 = (0, 0) → RJ w K' post) (h0 : K.2.1.2 = (0, 0)) : RJ w K post := h K rfl rfl h0
/-! ===== locals ===== -/
def lvg (lv : List (Nat × Value)) (i : Nat) : Option Value := (lv.find? (fun q => q.1 == i)).map (fun q => q.2)
theorem lvg_at {ls : Array Slot} {nL : Nat} {lv : List (Nat × Value)} {i : Nat} {v : Value} (h : lv_has ls nL lv) (hg : lvg lv i = some v) : ls[i]? = some (.val v) := by
  unfold lvg at hg
  cases hf : lv.find? (fun q => q.1 == i) with
  | none => rw [hf] at hg; cases hg
  | some q =>
    rw [hf] at hg
    have h1 := List.find?_some hf
    have h2 := List.mem_of_find?_eq_some hf
    have h3 := h.2.2 q h2
    have h4 : q.1 = i := by simpa using h1
    have h5 : q.2 = v := by simpa using hg
    rw [h4, h5] at h3
    exact h3
theorem lvg_mem {lv : List (Nat × Value)} {i : Nat} {v : Value} (hg : lvg lv i = some v) : ∃ k : Nat, lv[k]? = some (i, v) := by
  unfold lvg at hg
  cases hf : lv.find? (fun q => q.1 == i) with
  | none => rw [hf] at hg; cases hg
  | some q =>
    rw [hf] at hg
    have h1 := List.find?_some hf
    have h2 := List.mem_of_find?_eq_some hf
    have h4 : q.1 = i := by simpa using h1
    have h5 : q.2 = v := by simpa using hg
    obtain ⟨k, hk⟩ := List.getElem?_of_mem h2
    exact ⟨k, by rw [hk]; congr 1; exact Prod.ext h4 h5⟩
abbrev lvs (lv : List (Nat × Value)) (i : Nat) (v : Value) : List (Nat × Value) := (i, v) :: lv.filter (fun q => !(q.1 == i) && !(q.1 + 1 == i && q.2.category == 2))
abbrev lvs2 (lv : List (Nat × Value)) (i : Nat) (v : Value) : List (Nat × Value) := (i, v) :: lv.filter (fun q => !(q.1 == i) && (!(q.1 == i + 1) && !(q.1 + 1 == i && q.2.category == 2)))
section GR
variable {l : Launch} {w : WD} {K : KT} {cc : ByteArray} {own : String} {nl d mc ms pc : Nat} {lv : List (Nat × Value)} {st : List Value} {σ : SG}
theorem g_pc {q : Nat} (h : pc = q) (k : G l w K q lv st σ) : G l w K pc lv st σ := h ▸ k
theorem g_lv {lv' : List (Nat × Value)} (hs : ∀ q ∈ lv', q ∈ lv) (k : G l w K pc lv' st σ) : G l w K pc lv st σ := by
  obtain ⟨⟨p, e, R, s, m, args, below, meth, c⟩, ⟨nL, cells, slots⟩, Q, A⟩ := K
  intro H ls locs hl hP hS
  exact k H ls locs (lv_has_swap hl hs) hP hS

theorem g_iconst {n : Int} {v : Int32} (C : OK l w K cc nl own d mc ms) (hd : decode cc pc = .ok (.iconst n, 1)) (hv : Int32.ofInt n = v) (k : G l w K (pc + 1) lv (.int v :: st) σ) : G l w K pc lv (st) σ := by
  obtain ⟨⟨p, e, R, s, m, args, below, meth, c⟩, ⟨nL, cells, slots⟩, Q, A⟩ := K
  obtain ⟨⟨hx, hb, hml, hown, hts⟩, hK, hj, hA, hST, hlk, hR, hn, hmc, hms⟩ := C
  intro H ls locs hl hP hS
  exact lv_iconst hx hb hd hv (k H ls locs hl hP hS)
theorem g_bipush {n : Int} {v : Int32} (C : OK l w K cc nl own d mc ms) (hd : decode cc pc = .ok (.bipush n, 2)) (hv : (Int8.ofInt n).toInt32 = v) (k : G l w K (pc + 2) lv (.int v :: st) σ) : G l w K pc lv (st) σ := by
  obtain ⟨⟨p, e, R, s, m, args, below, meth, c⟩, ⟨nL, cells, slots⟩, Q, A⟩ := K
  obtain ⟨⟨hx, hb, hml, hown, hts⟩, hK, hj, hA, hST, hlk, hR, hn, hmc, hms⟩ := C
  intro H ls locs hl hP hS
  exact lv_bipush hx hb hd hv (k H ls locs hl hP hS)
theorem g_sipush {n : Int} {v : Int32} (C : OK l w K cc nl own d mc ms) (hd : decode cc pc = .ok (.sipush n, 3)) (hv : (Int16.ofInt n).toInt32 = v) (k : G l w K (pc + 3) lv (.int v :: st) σ) : G l w K pc lv (st) σ := by
  obtain ⟨⟨p, e, R, s, m, args, below, meth, c⟩, ⟨nL, cells, slots⟩, Q, A⟩ := K
  obtain ⟨⟨hx, hb, hml, hown, hts⟩, hK, hj, hA, hST, hlk, hR, hn, hmc, hms⟩ := C
  intro H ls locs hl hP hS
  exact lv_sipush hx hb hd hv (k H ls locs hl hP hS)
theorem g_ldc {idx : Nat} {v : Int32} (C : OK l w K cc nl own d mc ms) (hc : Cond.constant own idx v ∈ gt) (hd : decode cc pc = .ok (.ldc idx, 2)) (k : G l w K (pc + 2) lv (.int v :: st) σ) : G l w K pc lv (st) σ := by
  obtain ⟨⟨p, e, R, s, m, args, below, meth, c⟩, ⟨nL, cells, slots⟩, Q, A⟩ := K
  obtain ⟨⟨hx, hb, hml, hown, hts⟩, hK, hj, hA, hST, hlk, hR, hn, hmc, hms⟩ := C
  intro H ls locs hl hP hS
  exact lv_ldc hx hb hown (hts _ hc) hd (k H ls locs hl hP hS)
theorem g_ldc2 {idx : Nat} {v : Int64} (C : OK l w K cc nl own d mc ms) (hc : Cond.constantLong own idx v ∈ gt) (hd : decode cc pc = .ok (.ldc2_w idx, 3)) (k : G l w K (pc + 3) lv (.long v :: st) σ) : G l w K pc lv (st) σ := by
  obtain ⟨⟨p, e, R, s, m, args, below, meth, c⟩, ⟨nL, cells, slots⟩, Q, A⟩ := K
  obtain ⟨⟨hx, hb, hml, hown, hts⟩, hK, hj, hA, hST, hlk, hR, hn, hmc, hms⟩ := C
  intro H ls locs hl hP hS
  exact lv_ldc2 hx hb hown (hts _ hc) hd (k H ls locs hl hP hS)
theorem g_lconst {n : Fin 2} {v : Int64} (C : OK l w K cc nl own d mc ms) (hd : decode cc pc = .ok (.lconst n, 1)) (hv : Int64.ofNat (n : Nat) = v) (k : G l w K (pc + 1) lv (.long v :: st) σ) : G l w K pc lv (st) σ := by
  obtain ⟨⟨p, e, R, s, m, args, below, meth, c⟩, ⟨nL, cells, slots⟩, Q, A⟩ := K
  obtain ⟨⟨hx, hb, hml, hown, hts⟩, hK, hj, hA, hST, hlk, hR, hn, hmc, hms⟩ := C
  intro H ls locs hl hP hS
  exact lv_lconst hx hb hd hv (k H ls locs hl hP hS)
theorem g_iload_n {k0 : Fin 4} {i : Nat} {x : Int32} (C : OK l w K cc nl own d mc ms) (hd : decode cc pc = .ok (.iload_n k0, 1)) (hi : (k0 : Nat) = i) (hg : lvg lv i = some (.int x)) (k : G l w K (pc + 1) lv (.int x :: st) σ) : G l w K pc lv (st) σ := by
  obtain ⟨⟨p, e, R, s, m, args, below, meth, c⟩, ⟨nL, cells, slots⟩, Q, A⟩ := K
  obtain ⟨⟨hx, hb, hml, hown, hts⟩, hK, hj, hA, hST, hlk, hR, hn, hmc, hms⟩ := C
  intro H ls locs hl hP hS
  exact lv_iload_n hx hb hd hi (lvg_at hl hg) (k H ls locs hl hP hS)
theorem g_iload {i : Nat} {x : Int32} (C : OK l w K cc nl own d mc ms) (hd : decode cc pc = .ok (.iload i, 2)) (hg : lvg lv i = some (.int x)) (k : G l w K (pc + 2) lv (.int x :: st) σ) : G l w K pc lv (st) σ := by
  obtain ⟨⟨p, e, R, s, m, args, below, meth, c⟩, ⟨nL, cells, slots⟩, Q, A⟩ := K
  obtain ⟨⟨hx, hb, hml, hown, hts⟩, hK, hj, hA, hST, hlk, hR, hn, hmc, hms⟩ := C
  intro H ls locs hl hP hS
  exact lv_iload hx hb hd (lvg_at hl hg) (k H ls locs hl hP hS)
theorem g_istore_n {k0 : Fin 4} {i : Nat} {x : Int32} {lv' : List (Nat × Value)} (C : OK l w K cc nl own d mc ms) (hd : decode cc pc = .ok (.istore_n k0, 1)) (hi : (k0 : Nat) = i) (hb1 : i < nl) (hg : lvs lv i (.int x) = lv') (k : G l w K (pc + 1) lv' (st) σ) : G l w K pc lv (.int x :: st) σ := by
  obtain ⟨⟨p, e, R, s, m, args, below, meth, c⟩, ⟨nL, cells, slots⟩, Q, A⟩ := K
  obtain ⟨⟨hx, hb, hml, hown, hts⟩, hK, hj, hA, hST, hlk, hR, hn, hmc, hms⟩ := C
  intro H ls locs hl hP hS
  exact lv_istore_n hx hb hd hi hl (by rw [hn]; exact hb1) hg (fun ls hl => k H ls locs hl hP hS)
theorem g_istore {i : Nat} {x : Int32} {lv' : List (Nat × Value)} (C : OK l w K cc nl own d mc ms) (hd : decode cc pc = .ok (.istore i, 2)) (hb1 : i < nl) (hg : lvs lv i (.int x) = lv') (k : G l w K (pc + 2) lv' (st) σ) : G l w K pc lv (.int x :: st) σ := by
  obtain ⟨⟨p, e, R, s, m, args, below, meth, c⟩, ⟨nL, cells, slots⟩, Q, A⟩ := K
  obtain ⟨⟨hx, hb, hml, hown, hts⟩, hK, hj, hA, hST, hlk, hR, hn, hmc, hms⟩ := C
  intro H ls locs hl hP hS
  exact lv_istore hx hb hd hl (by rw [hn]; exact hb1) hg (fun ls hl => k H ls locs hl hP hS)
theorem g_lload_n {k0 : Fin 4} {i : Nat} {x : Int64} (C : OK l w K cc nl own d mc ms) (hd : decode cc pc = .ok (.lload_n k0, 1)) (hi : (k0 : Nat) = i) (hg : lvg lv i = some (.long x)) (k : G l w K (pc + 1) lv (.long x :: st) σ) : G l w K pc lv (st) σ := by
  obtain ⟨⟨p, e, R, s, m, args, below, meth, c⟩, ⟨nL, cells, slots⟩, Q, A⟩ := K
  obtain ⟨⟨hx, hb, hml, hown, hts⟩, hK, hj, hA, hST, hlk, hR, hn, hmc, hms⟩ := C
  intro H ls locs hl hP hS
  exact lv_lload_n hx hb hd hi (lvg_at hl hg) (k H ls locs hl hP hS)
theorem g_lload {i : Nat} {x : Int64} (C : OK l w K cc nl own d mc ms) (hd : decode cc pc = .ok (.lload i, 2)) (hg : lvg lv i = some (.long x)) (k : G l w K (pc + 2) lv (.long x :: st) σ) : G l w K pc lv (st) σ := by
  obtain ⟨⟨p, e, R, s, m, args, below, meth, c⟩, ⟨nL, cells, slots⟩, Q, A⟩ := K
  obtain ⟨⟨hx, hb, hml, hown, hts⟩, hK, hj, hA, hST, hlk, hR, hn, hmc, hms⟩ := C
  intro H ls locs hl hP hS
  exact lv_lload hx hb hd (lvg_at hl hg) (k H ls locs hl hP hS)
theorem g_lstore_n {k0 : Fin 4} {i : Nat} {x : Int64} {lv' : List (Nat × Value)} (C : OK l w K cc nl own d mc ms) (hd : decode cc pc = .ok (.lstore_n k0, 1)) (hi : (k0 : Nat) = i) (hb1 : i + 1 < nl) (hg : lvs2 lv i (.long x) = lv') (k : G l w K (pc + 1) lv' (st) σ) : G l w K pc lv (.long x :: st) σ := by
  obtain ⟨⟨p, e, R, s, m, args, below, meth, c⟩, ⟨nL, cells, slots⟩, Q, A⟩ := K
  obtain ⟨⟨hx, hb, hml, hown, hts⟩, hK, hj, hA, hST, hlk, hR, hn, hmc, hms⟩ := C
  intro H ls locs hl hP hS
  exact lv_lstore_n hx hb hd hi hl (by rw [hn]; exact hb1) hg (fun ls hl => k H ls locs hl hP hS)
theorem g_lstore {i : Nat} {x : Int64} {lv' : List (Nat × Value)} (C : OK l w K cc nl own d mc ms) (hd : decode cc pc = .ok (.lstore i, 2)) (hb1 : i + 1 < nl) (hg : lvs2 lv i (.long x) = lv') (k : G l w K (pc + 2) lv' (st) σ) : G l w K pc lv (.long x :: st) σ := by
  obtain ⟨⟨p, e, R, s, m, args, below, meth, c⟩, ⟨nL, cells, slots⟩, Q, A⟩ := K
  obtain ⟨⟨hx, hb, hml, hown, hts⟩, hK, hj, hA, hST, hlk, hR, hn, hmc, hms⟩ := C
  intro H ls locs hl hP hS
  exact lv_lstore hx hb hd hl (by rw [hn]; exact hb1) hg (fun ls hl => k H ls locs hl hP hS)
theorem g_aload_n {k0 : Fin 4} {i : Nat} {x : Nat} (C : OK l w K cc nl own d mc ms) (hd : decode cc pc = .ok (.aload_n k0, 1)) (hi : (k0 : Nat) = i) (hg : lvg lv i = some (.ref x)) (k : G l w K (pc + 1) lv (.ref x :: st) σ) : G l w K pc lv (st) σ := by
  obtain ⟨⟨p, e, R, s, m, args, below, meth, c⟩, ⟨nL, cells, slots⟩, Q, A⟩ := K
  obtain ⟨⟨hx, hb, hml, hown, hts⟩, hK, hj, hA, hST, hlk, hR, hn, hmc, hms⟩ := C
  intro H ls locs hl hP hS
  exact lv_aload_n hx hb hd hi (lvg_at hl hg) (k H ls locs hl hP hS)
theorem g_aload {i : Nat} {x : Nat} (C : OK l w K cc nl own d mc ms) (hd : decode cc pc = .ok (.aload i, 2)) (hg : lvg lv i = some (.ref x)) (k : G l w K (pc + 2) lv (.ref x :: st) σ) : G l w K pc lv (st) σ := by
  obtain ⟨⟨p, e, R, s, m, args, below, meth, c⟩, ⟨nL, cells, slots⟩, Q, A⟩ := K
  obtain ⟨⟨hx, hb, hml, hown, hts⟩, hK, hj, hA, hST, hlk, hR, hn, hmc, hms⟩ := C
  intro H ls locs hl hP hS
  exact lv_aload hx hb hd (lvg_at hl hg) (k H ls locs hl hP hS)
theorem g_astore_n {k0 : Fin 4} {i : Nat} {x : Nat} {lv' : List (Nat × Value)} (C : OK l w K cc nl own d mc ms) (hd : decode cc pc = .ok (.astore_n k0, 1)) (hi : (k0 : Nat) = i) (hb1 : i < nl) (hg : lvs lv i (.ref x) = lv') (k : G l w K (pc + 1) lv' (st) σ) : G l w K pc lv (.ref x :: st) σ := by
  obtain ⟨⟨p, e, R, s, m, args, below, meth, c⟩, ⟨nL, cells, slots⟩, Q, A⟩ := K
  obtain ⟨⟨hx, hb, hml, hown, hts⟩, hK, hj, hA, hST, hlk, hR, hn, hmc, hms⟩ := C
  intro H ls locs hl hP hS
  exact lv_astore_n hx hb hd hi hl (by rw [hn]; exact hb1) hg (fun ls hl => k H ls locs hl hP hS)
theorem g_astore {i : Nat} {x : Nat} {lv' : List (Nat × Value)} (C : OK l w K cc nl own d mc ms) (hd : decode cc pc = .ok (.astore i, 2)) (hb1 : i < nl) (hg : lvs lv i (.ref x) = lv') (k : G l w K (pc + 2) lv' (st) σ) : G l w K pc lv (.ref x :: st) σ := by
  obtain ⟨⟨p, e, R, s, m, args, below, meth, c⟩, ⟨nL, cells, slots⟩, Q, A⟩ := K
  obtain ⟨⟨hx, hb, hml, hown, hts⟩, hK, hj, hA, hST, hlk, hR, hn, hmc, hms⟩ := C
  intro H ls locs hl hP hS
  exact lv_astore hx hb hd hl (by rw [hn]; exact hb1) hg (fun ls hl => k H ls locs hl hP hS)
theorem g_iinc {i : Nat} {n : Int} {x v : Int32} {lv' : List (Nat × Value)} (C : OK l w K cc nl own d mc ms) (hd : decode cc pc = .ok (.iinc i n, 3)) (hb1 : i < nl) (hk0 : lvg lv i = some (.int x)) (hv : x + Int32.ofInt n = v) (hg : lvs lv i (.int v) = lv') (k : G l w K (pc + 3) lv' (st) σ) : G l w K pc lv (st) σ := by
  obtain ⟨⟨p, e, R, s, m, args, below, meth, c⟩, ⟨nL, cells, slots⟩, Q, A⟩ := K
  obtain ⟨⟨hx, hb, hml, hown, hts⟩, hK, hj, hA, hST, hlk, hR, hn, hmc, hms⟩ := C
  intro H ls locs hl hP hS
  exact lv_iinc hx hb hd hl (k := (lvg_mem hk0).choose) (lvg_mem hk0).choose_spec hv (by rw [hn]; exact hb1) hg (fun ls hl => k H ls locs hl hP hS)
theorem g_iadd {x y : Int32} (C : OK l w K cc nl own d mc ms) (hd : decode cc pc = .ok (.iadd, 1)) (k : G l w K (pc + 1) lv (.int (x + y) :: st) σ) : G l w K pc lv (.int y :: .int x :: st) σ := by
  obtain ⟨⟨p, e, R, s, m, args, below, meth, c⟩, ⟨nL, cells, slots⟩, Q, A⟩ := K
  obtain ⟨⟨hx, hb, hml, hown, hts⟩, hK, hj, hA, hST, hlk, hR, hn, hmc, hms⟩ := C
  intro H ls locs hl hP hS
  exact lv_iadd hx hb hd (k H ls locs hl hP hS)
theorem g_isub {x y : Int32} (C : OK l w K cc nl own d mc ms) (hd : decode cc pc = .ok (.isub, 1)) (k : G l w K (pc + 1) lv (.int (x - y) :: st) σ) : G l w K pc lv (.int y :: .int x :: st) σ := by
  obtain ⟨⟨p, e, R, s, m, args, below, meth, c⟩, ⟨nL, cells, slots⟩, Q, A⟩ := K
  obtain ⟨⟨hx, hb, hml, hown, hts⟩, hK, hj, hA, hST, hlk, hR, hn, hmc, hms⟩ := C
  intro H ls locs hl hP hS
  exact lv_isub hx hb hd (k H ls locs hl hP hS)
theorem g_imul {x y : Int32} (C : OK l w K cc nl own d mc ms) (hd : decode cc pc = .ok (.imul, 1)) (k : G l w K (pc + 1) lv (.int (x * y) :: st) σ) : G l w K pc lv (.int y :: .int x :: st) σ := by
  obtain ⟨⟨p, e, R, s, m, args, below, meth, c⟩, ⟨nL, cells, slots⟩, Q, A⟩ := K
  obtain ⟨⟨hx, hb, hml, hown, hts⟩, hK, hj, hA, hST, hlk, hR, hn, hmc, hms⟩ := C
  intro H ls locs hl hP hS
  exact lv_imul hx hb hd (k H ls locs hl hP hS)
theorem g_iand {x y : Int32} (C : OK l w K cc nl own d mc ms) (hd : decode cc pc = .ok (.iand, 1)) (k : G l w K (pc + 1) lv (.int (x &&& y) :: st) σ) : G l w K pc lv (.int y :: .int x :: st) σ := by
  obtain ⟨⟨p, e, R, s, m, args, below, meth, c⟩, ⟨nL, cells, slots⟩, Q, A⟩ := K
  obtain ⟨⟨hx, hb, hml, hown, hts⟩, hK, hj, hA, hST, hlk, hR, hn, hmc, hms⟩ := C
  intro H ls locs hl hP hS
  exact lv_iand hx hb hd (k H ls locs hl hP hS)
theorem g_ior {x y : Int32} (C : OK l w K cc nl own d mc ms) (hd : decode cc pc = .ok (.ior, 1)) (k : G l w K (pc + 1) lv (.int (x ||| y) :: st) σ) : G l w K pc lv (.int y :: .int x :: st) σ := by
  obtain ⟨⟨p, e, R, s, m, args, below, meth, c⟩, ⟨nL, cells, slots⟩, Q, A⟩ := K
  obtain ⟨⟨hx, hb, hml, hown, hts⟩, hK, hj, hA, hST, hlk, hR, hn, hmc, hms⟩ := C
  intro H ls locs hl hP hS
  exact lv_ior hx hb hd (k H ls locs hl hP hS)
theorem g_ishl {x y : Int32} (C : OK l w K cc nl own d mc ms) (hd : decode cc pc = .ok (.ishl, 1)) (k : G l w K (pc + 1) lv (.int (x <<< (y &&& 31)) :: st) σ) : G l w K pc lv (.int y :: .int x :: st) σ := by
  obtain ⟨⟨p, e, R, s, m, args, below, meth, c⟩, ⟨nL, cells, slots⟩, Q, A⟩ := K
  obtain ⟨⟨hx, hb, hml, hown, hts⟩, hK, hj, hA, hST, hlk, hR, hn, hmc, hms⟩ := C
  intro H ls locs hl hP hS
  exact lv_ishl hx hb hd (k H ls locs hl hP hS)
theorem g_ishr {x y : Int32} (C : OK l w K cc nl own d mc ms) (hd : decode cc pc = .ok (.ishr, 1)) (k : G l w K (pc + 1) lv (.int (x >>> (y &&& 31)) :: st) σ) : G l w K pc lv (.int y :: .int x :: st) σ := by
  obtain ⟨⟨p, e, R, s, m, args, below, meth, c⟩, ⟨nL, cells, slots⟩, Q, A⟩ := K
  obtain ⟨⟨hx, hb, hml, hown, hts⟩, hK, hj, hA, hST, hlk, hR, hn, hmc, hms⟩ := C
  intro H ls locs hl hP hS
  exact lv_ishr hx hb hd (k H ls locs hl hP hS)
theorem g_ladd {x y : Int64} (C : OK l w K cc nl own d mc ms) (hd : decode cc pc = .ok (.ladd, 1)) (k : G l w K (pc + 1) lv (.long (x + y) :: st) σ) : G l w K pc lv (.long y :: .long x :: st) σ := by
  obtain ⟨⟨p, e, R, s, m, args, below, meth, c⟩, ⟨nL, cells, slots⟩, Q, A⟩ := K
  obtain ⟨⟨hx, hb, hml, hown, hts⟩, hK, hj, hA, hST, hlk, hR, hn, hmc, hms⟩ := C
  intro H ls locs hl hP hS
  exact lv_ladd hx hb hd (k H ls locs hl hP hS)
theorem g_lsub {x y : Int64} (C : OK l w K cc nl own d mc ms) (hd : decode cc pc = .ok (.lsub, 1)) (k : G l w K (pc + 1) lv (.long (x - y) :: st) σ) : G l w K pc lv (.long y :: .long x :: st) σ := by
  obtain ⟨⟨p, e, R, s, m, args, below, meth, c⟩, ⟨nL, cells, slots⟩, Q, A⟩ := K
  obtain ⟨⟨hx, hb, hml, hown, hts⟩, hK, hj, hA, hST, hlk, hR, hn, hmc, hms⟩ := C
  intro H ls locs hl hP hS
  exact lv_lsub hx hb hd (k H ls locs hl hP hS)
theorem g_lmul {x y : Int64} (C : OK l w K cc nl own d mc ms) (hd : decode cc pc = .ok (.lmul, 1)) (k : G l w K (pc + 1) lv (.long (x * y) :: st) σ) : G l w K pc lv (.long y :: .long x :: st) σ := by
  obtain ⟨⟨p, e, R, s, m, args, below, meth, c⟩, ⟨nL, cells, slots⟩, Q, A⟩ := K
  obtain ⟨⟨hx, hb, hml, hown, hts⟩, hK, hj, hA, hST, hlk, hR, hn, hmc, hms⟩ := C
  intro H ls locs hl hP hS
  exact lv_lmul hx hb hd (k H ls locs hl hP hS)
theorem g_idiv {x y : Int32} (C : OK l w K cc nl own d mc ms) (hd : decode cc pc = .ok (.idiv, 1)) (hne : ¬ y = 0) (k : G l w K (pc + 1) lv (.int (x / y) :: st) σ) : G l w K pc lv (.int y :: .int x :: st) σ := by
  obtain ⟨⟨p, e, R, s, m, args, below, meth, c⟩, ⟨nL, cells, slots⟩, Q, A⟩ := K
  obtain ⟨⟨hx, hb, hml, hown, hts⟩, hK, hj, hA, hST, hlk, hR, hn, hmc, hms⟩ := C
  intro H ls locs hl hP hS
  exact lv_idiv hx hb hd hne (k H ls locs hl hP hS)
theorem g_irem {x y : Int32} (C : OK l w K cc nl own d mc ms) (hd : decode cc pc = .ok (.irem, 1)) (hne : ¬ y = 0) (k : G l w K (pc + 1) lv (.int (x - x / y * y) :: st) σ) : G l w K pc lv (.int y :: .int x :: st) σ := by
  obtain ⟨⟨p, e, R, s, m, args, below, meth, c⟩, ⟨nL, cells, slots⟩, Q, A⟩ := K
  obtain ⟨⟨hx, hb, hml, hown, hts⟩, hK, hj, hA, hST, hlk, hR, hn, hmc, hms⟩ := C
  intro H ls locs hl hP hS
  exact lv_irem hx hb hd hne (k H ls locs hl hP hS)
theorem g_ldiv {x y : Int64} (C : OK l w K cc nl own d mc ms) (hd : decode cc pc = .ok (.ldiv, 1)) (hne : ¬ y = 0) (k : G l w K (pc + 1) lv (.long (x / y) :: st) σ) : G l w K pc lv (.long y :: .long x :: st) σ := by
  obtain ⟨⟨p, e, R, s, m, args, below, meth, c⟩, ⟨nL, cells, slots⟩, Q, A⟩ := K
  obtain ⟨⟨hx, hb, hml, hown, hts⟩, hK, hj, hA, hST, hlk, hR, hn, hmc, hms⟩ := C
  intro H ls locs hl hP hS
  exact lv_ldiv hx hb hd hne (k H ls locs hl hP hS)
theorem g_lrem {x y : Int64} (C : OK l w K cc nl own d mc ms) (hd : decode cc pc = .ok (.lrem, 1)) (hne : ¬ y = 0) (k : G l w K (pc + 1) lv (.long (x - x / y * y) :: st) σ) : G l w K pc lv (.long y :: .long x :: st) σ := by
  obtain ⟨⟨p, e, R, s, m, args, below, meth, c⟩, ⟨nL, cells, slots⟩, Q, A⟩ := K
  obtain ⟨⟨hx, hb, hml, hown, hts⟩, hK, hj, hA, hST, hlk, hR, hn, hmc, hms⟩ := C
  intro H ls locs hl hP hS
  exact lv_lrem hx hb hd hne (k H ls locs hl hP hS)
theorem g_ineg {x : Int32} (C : OK l w K cc nl own d mc ms) (hd : decode cc pc = .ok (.ineg, 1)) (k : G l w K (pc + 1) lv (.int (-x) :: st) σ) : G l w K pc lv (.int x :: st) σ := by
  obtain ⟨⟨p, e, R, s, m, args, below, meth, c⟩, ⟨nL, cells, slots⟩, Q, A⟩ := K
  obtain ⟨⟨hx, hb, hml, hown, hts⟩, hK, hj, hA, hST, hlk, hR, hn, hmc, hms⟩ := C
  intro H ls locs hl hP hS
  exact lv_ineg hx hb hd (k H ls locs hl hP hS)
theorem g_i2l {x : Int32} (C : OK l w K cc nl own d mc ms) (hd : decode cc pc = .ok (.i2l, 1)) (k : G l w K (pc + 1) lv (.long x.toInt64 :: st) σ) : G l w K pc lv (.int x :: st) σ := by
  obtain ⟨⟨p, e, R, s, m, args, below, meth, c⟩, ⟨nL, cells, slots⟩, Q, A⟩ := K
  obtain ⟨⟨hx, hb, hml, hown, hts⟩, hK, hj, hA, hST, hlk, hR, hn, hmc, hms⟩ := C
  intro H ls locs hl hP hS
  exact lv_i2l hx hb hd rfl (k H ls locs hl hP hS)
theorem g_i2c {x v : Int32} (C : OK l w K cc nl own d mc ms) (hd : decode cc pc = .ok (.i2c, 1)) (hv : (x.toUInt32 % 65536).toInt32 = v) (k : G l w K (pc + 1) lv (.int v :: st) σ) : G l w K pc lv (.int x :: st) σ := by
  obtain ⟨⟨p, e, R, s, m, args, below, meth, c⟩, ⟨nL, cells, slots⟩, Q, A⟩ := K
  obtain ⟨⟨hx, hb, hml, hown, hts⟩, hK, hj, hA, hST, hlk, hR, hn, hmc, hms⟩ := C
  intro H ls locs hl hP hS
  exact lv_i2c hx hb hd hv (k H ls locs hl hP hS)
theorem g_dup {va : Value} (C : OK l w K cc nl own d mc ms) (hd : decode cc pc = .ok (.dup, 1)) (hc : va.category = 1) (k : G l w K (pc + 1) lv (va :: va :: st) σ) : G l w K pc lv (va :: st) σ := by
  obtain ⟨⟨p, e, R, s, m, args, below, meth, c⟩, ⟨nL, cells, slots⟩, Q, A⟩ := K
  obtain ⟨⟨hx, hb, hml, hown, hts⟩, hK, hj, hA, hST, hlk, hR, hn, hmc, hms⟩ := C
  intro H ls locs hl hP hS
  exact lv_dup hx hb hd hc (k H ls locs hl hP hS)
theorem g_pop {va : Value} (C : OK l w K cc nl own d mc ms) (hd : decode cc pc = .ok (.pop, 1)) (hc : va.category = 1) (k : G l w K (pc + 1) lv (st) σ) : G l w K pc lv (va :: st) σ := by
  obtain ⟨⟨p, e, R, s, m, args, below, meth, c⟩, ⟨nL, cells, slots⟩, Q, A⟩ := K
  obtain ⟨⟨hx, hb, hml, hown, hts⟩, hK, hj, hA, hST, hlk, hR, hn, hmc, hms⟩ := C
  intro H ls locs hl hP hS
  exact lv_pop hx hb hd hc (k H ls locs hl hP hS)
theorem g_dup2 {va vb : Value} (C : OK l w K cc nl own d mc ms) (hd : decode cc pc = .ok (.dup2, 1)) (hc : va.category = 1) (hc2 : vb.category = 1) (k : G l w K (pc + 1) lv (va :: vb :: va :: vb :: st) σ) : G l w K pc lv (va :: vb :: st) σ := by
  obtain ⟨⟨p, e, R, s, m, args, below, meth, c⟩, ⟨nL, cells, slots⟩, Q, A⟩ := K
  obtain ⟨⟨hx, hb, hml, hown, hts⟩, hK, hj, hA, hST, hlk, hR, hn, hmc, hms⟩ := C
  intro H ls locs hl hP hS
  exact lv_dup2_11 hx hb hd hc hc2 (k H ls locs hl hP hS)
theorem g_goto {off : Int} {tgt : Nat} (C : OK l w K cc nl own d mc ms) (hd : decode cc pc = .ok (.goto off, 3)) (ht : (pc : Int) + off = (tgt : Int)) (k : G l w K (tgt) lv (st) σ) : G l w K pc lv (st) σ := by
  obtain ⟨⟨p, e, R, s, m, args, below, meth, c⟩, ⟨nL, cells, slots⟩, Q, A⟩ := K
  obtain ⟨⟨hx, hb, hml, hown, hts⟩, hK, hj, hA, hST, hlk, hR, hn, hmc, hms⟩ := C
  intro H ls locs hl hP hS
  exact lv_goto hx hb hd ht (k H ls locs hl hP hS)
theorem g_lcmp {x y : Int64} (C : OK l w K cc nl own d mc ms) (hd : decode cc pc = .ok (.lcmp, 1)) (k : G l w K (pc + 1) lv (.int (lg_cmp x y) :: st) σ) : G l w K pc lv (.long y :: .long x :: st) σ := by
  obtain ⟨⟨p, e, R, s, m, args, below, meth, c⟩, ⟨nL, cells, slots⟩, Q, A⟩ := K
  obtain ⟨⟨hx, hb, hml, hown, hts⟩, hK, hj, hA, hST, hlk, hR, hn, hmc, hms⟩ := C
  intro H ls locs hl hP hS
  exact W.lcmp hx hb hd (k H ls locs hl hP hS)
theorem g_if_ne {x : Int32} {off : Int} {tgt : Nat} (C : OK l w K cc nl own d mc ms) (hd : decode cc pc = .ok (.ifCond .ne off, 3)) (ht : (pc : Int) + off = (tgt : Int)) (kt : ¬ (x = 0) → G l w K tgt lv st σ) (kf : (x = 0) → G l w K (pc + 3) lv st σ) : G l w K pc lv (.int x :: st) σ := by
  obtain ⟨⟨p, e, R, s, m, args, below, meth, c⟩, ⟨nL, cells, slots⟩, Q, A⟩ := K
  obtain ⟨⟨hx, hb, hml, hown, hts⟩, hK, hj, hA, hST, hlk, hR, hn, hmc, hms⟩ := C
  intro H ls locs hl hP hS
  exact lv_if_ne hx hb hd ht (fun q => kt q H ls locs hl hP hS) (fun q => kf q H ls locs hl hP hS)
theorem g_icmp_ne {x y : Int32} {off : Int} {tgt : Nat} (C : OK l w K cc nl own d mc ms) (hd : decode cc pc = .ok (.if_icmp .ne off, 3)) (ht : (pc : Int) + off = (tgt : Int)) (kt : ¬ (x = y) → G l w K tgt lv st σ) (kf : (x = y) → G l w K (pc + 3) lv st σ) : G l w K pc lv (.int y :: .int x :: st) σ := by
  obtain ⟨⟨p, e, R, s, m, args, below, meth, c⟩, ⟨nL, cells, slots⟩, Q, A⟩ := K
  obtain ⟨⟨hx, hb, hml, hown, hts⟩, hK, hj, hA, hST, hlk, hR, hn, hmc, hms⟩ := C
  intro H ls locs hl hP hS
  exact lv_icmp_ne hx hb hd ht (fun q => kt q H ls locs hl hP hS) (fun q => kf q H ls locs hl hP hS)
theorem g_if_eq {x : Int32} {off : Int} {tgt : Nat} (C : OK l w K cc nl own d mc ms) (hd : decode cc pc = .ok (.ifCond .eq off, 3)) (ht : (pc : Int) + off = (tgt : Int)) (kt : (x = 0) → G l w K tgt lv st σ) (kf : ¬ (x = 0) → G l w K (pc + 3) lv st σ) : G l w K pc lv (.int x :: st) σ := by
  obtain ⟨⟨p, e, R, s, m, args, below, meth, c⟩, ⟨nL, cells, slots⟩, Q, A⟩ := K
  obtain ⟨⟨hx, hb, hml, hown, hts⟩, hK, hj, hA, hST, hlk, hR, hn, hmc, hms⟩ := C
  intro H ls locs hl hP hS
  exact lv_if_eq hx hb hd ht (fun q => kt q H ls locs hl hP hS) (fun q => kf q H ls locs hl hP hS)
theorem g_icmp_eq {x y : Int32} {off : Int} {tgt : Nat} (C : OK l w K cc nl own d mc ms) (hd : decode cc pc = .ok (.if_icmp .eq off, 3)) (ht : (pc : Int) + off = (tgt : Int)) (kt : (x = y) → G l w K tgt lv st σ) (kf : ¬ (x = y) → G l w K (pc + 3) lv st σ) : G l w K pc lv (.int y :: .int x :: st) σ := by
  obtain ⟨⟨p, e, R, s, m, args, below, meth, c⟩, ⟨nL, cells, slots⟩, Q, A⟩ := K
  obtain ⟨⟨hx, hb, hml, hown, hts⟩, hK, hj, hA, hST, hlk, hR, hn, hmc, hms⟩ := C
  intro H ls locs hl hP hS
  exact lv_icmp_eq hx hb hd ht (fun q => kt q H ls locs hl hP hS) (fun q => kf q H ls locs hl hP hS)
theorem g_if_lt {x : Int32} {off : Int} {tgt : Nat} (C : OK l w K cc nl own d mc ms) (hd : decode cc pc = .ok (.ifCond .lt off, 3)) (ht : (pc : Int) + off = (tgt : Int)) (kt : (x < 0) → G l w K tgt lv st σ) (kf : ¬ (x < 0) → G l w K (pc + 3) lv st σ) : G l w K pc lv (.int x :: st) σ := by
  obtain ⟨⟨p, e, R, s, m, args, below, meth, c⟩, ⟨nL, cells, slots⟩, Q, A⟩ := K
  obtain ⟨⟨hx, hb, hml, hown, hts⟩, hK, hj, hA, hST, hlk, hR, hn, hmc, hms⟩ := C
  intro H ls locs hl hP hS
  exact lv_if_lt hx hb hd ht (fun q => kt q H ls locs hl hP hS) (fun q => kf q H ls locs hl hP hS)
theorem g_icmp_lt {x y : Int32} {off : Int} {tgt : Nat} (C : OK l w K cc nl own d mc ms) (hd : decode cc pc = .ok (.if_icmp .lt off, 3)) (ht : (pc : Int) + off = (tgt : Int)) (kt : (x < y) → G l w K tgt lv st σ) (kf : ¬ (x < y) → G l w K (pc + 3) lv st σ) : G l w K pc lv (.int y :: .int x :: st) σ := by
  obtain ⟨⟨p, e, R, s, m, args, below, meth, c⟩, ⟨nL, cells, slots⟩, Q, A⟩ := K
  obtain ⟨⟨hx, hb, hml, hown, hts⟩, hK, hj, hA, hST, hlk, hR, hn, hmc, hms⟩ := C
  intro H ls locs hl hP hS
  exact lv_icmp_lt hx hb hd ht (fun q => kt q H ls locs hl hP hS) (fun q => kf q H ls locs hl hP hS)
theorem g_if_ge {x : Int32} {off : Int} {tgt : Nat} (C : OK l w K cc nl own d mc ms) (hd : decode cc pc = .ok (.ifCond .ge off, 3)) (ht : (pc : Int) + off = (tgt : Int)) (kt : (0 ≤ x) → G l w K tgt lv st σ) (kf : ¬ (0 ≤ x) → G l w K (pc + 3) lv st σ) : G l w K pc lv (.int x :: st) σ := by
  obtain ⟨⟨p, e, R, s, m, args, below, meth, c⟩, ⟨nL, cells, slots⟩, Q, A⟩ := K
  obtain ⟨⟨hx, hb, hml, hown, hts⟩, hK, hj, hA, hST, hlk, hR, hn, hmc, hms⟩ := C
  intro H ls locs hl hP hS
  exact lv_if_ge hx hb hd ht (fun q => kt q H ls locs hl hP hS) (fun q => kf q H ls locs hl hP hS)
theorem g_icmp_ge {x y : Int32} {off : Int} {tgt : Nat} (C : OK l w K cc nl own d mc ms) (hd : decode cc pc = .ok (.if_icmp .ge off, 3)) (ht : (pc : Int) + off = (tgt : Int)) (kt : (y ≤ x) → G l w K tgt lv st σ) (kf : ¬ (y ≤ x) → G l w K (pc + 3) lv st σ) : G l w K pc lv (.int y :: .int x :: st) σ := by
  obtain ⟨⟨p, e, R, s, m, args, below, meth, c⟩, ⟨nL, cells, slots⟩, Q, A⟩ := K
  obtain ⟨⟨hx, hb, hml, hown, hts⟩, hK, hj, hA, hST, hlk, hR, hn, hmc, hms⟩ := C
  intro H ls locs hl hP hS
  exact lv_icmp_ge hx hb hd ht (fun q => kt q H ls locs hl hP hS) (fun q => kf q H ls locs hl hP hS)
theorem g_if_gt {x : Int32} {off : Int} {tgt : Nat} (C : OK l w K cc nl own d mc ms) (hd : decode cc pc = .ok (.ifCond .gt off, 3)) (ht : (pc : Int) + off = (tgt : Int)) (kt : (0 < x) → G l w K tgt lv st σ) (kf : ¬ (0 < x) → G l w K (pc + 3) lv st σ) : G l w K pc lv (.int x :: st) σ := by
  obtain ⟨⟨p, e, R, s, m, args, below, meth, c⟩, ⟨nL, cells, slots⟩, Q, A⟩ := K
  obtain ⟨⟨hx, hb, hml, hown, hts⟩, hK, hj, hA, hST, hlk, hR, hn, hmc, hms⟩ := C
  intro H ls locs hl hP hS
  exact lv_if_gt hx hb hd ht (fun q => kt q H ls locs hl hP hS) (fun q => kf q H ls locs hl hP hS)
theorem g_icmp_gt {x y : Int32} {off : Int} {tgt : Nat} (C : OK l w K cc nl own d mc ms) (hd : decode cc pc = .ok (.if_icmp .gt off, 3)) (ht : (pc : Int) + off = (tgt : Int)) (kt : (y < x) → G l w K tgt lv st σ) (kf : ¬ (y < x) → G l w K (pc + 3) lv st σ) : G l w K pc lv (.int y :: .int x :: st) σ := by
  obtain ⟨⟨p, e, R, s, m, args, below, meth, c⟩, ⟨nL, cells, slots⟩, Q, A⟩ := K
  obtain ⟨⟨hx, hb, hml, hown, hts⟩, hK, hj, hA, hST, hlk, hR, hn, hmc, hms⟩ := C
  intro H ls locs hl hP hS
  exact lv_icmp_gt hx hb hd ht (fun q => kt q H ls locs hl hP hS) (fun q => kf q H ls locs hl hP hS)
theorem g_if_le {x : Int32} {off : Int} {tgt : Nat} (C : OK l w K cc nl own d mc ms) (hd : decode cc pc = .ok (.ifCond .le off, 3)) (ht : (pc : Int) + off = (tgt : Int)) (kt : (x ≤ 0) → G l w K tgt lv st σ) (kf : ¬ (x ≤ 0) → G l w K (pc + 3) lv st σ) : G l w K pc lv (.int x :: st) σ := by
  obtain ⟨⟨p, e, R, s, m, args, below, meth, c⟩, ⟨nL, cells, slots⟩, Q, A⟩ := K
  obtain ⟨⟨hx, hb, hml, hown, hts⟩, hK, hj, hA, hST, hlk, hR, hn, hmc, hms⟩ := C
  intro H ls locs hl hP hS
  exact lv_if_le hx hb hd ht (fun q => kt q H ls locs hl hP hS) (fun q => kf q H ls locs hl hP hS)
theorem g_icmp_le {x y : Int32} {off : Int} {tgt : Nat} (C : OK l w K cc nl own d mc ms) (hd : decode cc pc = .ok (.if_icmp .le off, 3)) (ht : (pc : Int) + off = (tgt : Int)) (kt : (x ≤ y) → G l w K tgt lv st σ) (kf : ¬ (x ≤ y) → G l w K (pc + 3) lv st σ) : G l w K pc lv (.int y :: .int x :: st) σ := by
  obtain ⟨⟨p, e, R, s, m, args, below, meth, c⟩, ⟨nL, cells, slots⟩, Q, A⟩ := K
  obtain ⟨⟨hx, hb, hml, hown, hts⟩, hK, hj, hA, hST, hlk, hR, hn, hmc, hms⟩ := C
  intro H ls locs hl hP hS
  exact lv_icmp_le hx hb hd ht (fun q => kt q H ls locs hl hP hS) (fun q => kf q H ls locs hl hP hS)
/-! ===== ends ===== -/
theorem g_iret {ty : FieldType} {post : Int32 → SG → Prop} {v : Int32} (C : OK l w K cc nl own d mc ms) (r : RI w K ty post) (hnr : narrow ty (.int v) = .int v) (hd : decode cc pc = .ok (.ireturn, 1)) (h : post v σ) : G l w K pc lv [.int v] σ := by
  obtain ⟨⟨p, e, R, s, m, args, below, meth, c⟩, ⟨nL, cells, slots⟩, Q, A⟩ := K
  obtain ⟨⟨hx, hb, hml, hown, hts⟩, hK, hj, hA, hST, hlk, hR, hn, hmc, hms⟩ := C
  obtain ⟨hr, hQ⟩ := r
  subst hQ
  intro H ls locs hl hP hS
  exact W.zret hx hb hr hnr (fun t ht hW => ⟨⟨v, σ, rfl, h, by show va_P _ _ _ t.heap; rw [ht]; exact hP⟩, hS.F ht⟩) hS.2.2 hd hlk
theorem g_vret {post : SG → Prop} (C : OK l w K cc nl own d mc ms) (r : RV w K post) (hd : decode cc pc = .ok (.return_, 1)) (h : post σ) : G l w K pc lv [] σ := by
  obtain ⟨⟨p, e, R, s, m, args, below, meth, c⟩, ⟨nL, cells, slots⟩, Q, A⟩ := K
  obtain ⟨⟨hx, hb, hml, hown, hts⟩, hK, hj, hA, hST, hlk, hR, hn, hmc, hms⟩ := C
  obtain ⟨hr, hQ⟩ := r
  subst hQ
  intro H ls locs hl hP hS
  exact W.vret hx hb hr (fun t ht hW => ⟨⟨σ, rfl, h, by show va_P _ _ _ t.heap; rw [ht]; exact hP⟩, hS.F ht⟩) hS.2.2 hd hlk
theorem g_lret {post : Int64 → SG → Prop} {v : Int64} (C : OK l w K cc nl own d mc ms) (r : RJ w K post) (hd : decode cc pc = .ok (.lreturn, 1)) (h : post v σ) : G l w K pc lv [.long v] σ := by
  obtain ⟨⟨p, e, R, s, m, args, below, meth, c⟩, ⟨nL, cells, slots⟩, Q, A⟩ := K
  obtain ⟨⟨hx, hb, hml, hown, hts⟩, hK, hj, hA, hST, hlk, hR, hn, hmc, hms⟩ := C
  obtain ⟨hr, hQ⟩ := r
  subst hQ
  intro H ls locs hl hP hS
  exact W.lret hx hb hr (fun t ht hW => ⟨⟨v, σ, rfl, h, by show va_P _ _ _ t.heap; rw [ht]; exact hP⟩, hS.F ht⟩) hS.2.2 hd hlk
/-! ===== switches ===== -/
theorem g_tsw {dflt lo hi : Int} {offs : Array Int} {len : Nat} {x v : Int32} {off : Int} {tgt : Nat} (C : OK l w K cc nl own d mc ms) (hd : decode cc pc = .ok (.tableswitch dflt lo hi offs, len)) (hv : x = v) (h1 : ¬ v.toInt < lo) (h2 : ¬ hi < v.toInt) (ho : offs[(v.toInt - lo).toNat]? = some off) (ht : (pc : Int) + off = (tgt : Int)) (k : G l w K tgt lv st σ) : G l w K pc lv (.int x :: st) σ := by
  subst hv
  obtain ⟨⟨p, e, R, s, m, args, below, meth, c⟩, ⟨nL, cells, slots⟩, Q, A⟩ := K
  obtain ⟨⟨hx, hb, hml, hown, hts⟩, hK, hj, hA, hST, hlk, hR, hn, hmc, hms⟩ := C
  intro H ls locs hl hP hS
  exact lv_tableIn hx hb hd h1 h2 ho ht (k H ls locs hl hP hS)
theorem g_tswd {dflt lo hi : Int} {offs : Array Int} {len : Nat} {x : Int32} {tgt : Nat} (C : OK l w K cc nl own d mc ms) (hd : decode cc pc = .ok (.tableswitch dflt lo hi offs, len)) (h : x.toInt < lo ∨ hi < x.toInt) (ht : (pc : Int) + dflt = (tgt : Int)) (k : G l w K tgt lv st σ) : G l w K pc lv (.int x :: st) σ := by
  obtain ⟨⟨p, e, R, s, m, args, below, meth, c⟩, ⟨nL, cells, slots⟩, Q, A⟩ := K
  obtain ⟨⟨hx, hb, hml, hown, hts⟩, hK, hj, hA, hST, hlk, hR, hn, hmc, hms⟩ := C
  intro H ls locs hl hP hS
  exact lv_tableOut hx hb hd h ht (k H ls locs hl hP hS)
theorem g_lsw {dflt : Int} {ps : Array (Int × Int)} {len : Nat} {x : Int32} {off : Int} {tgt : Nat} (C : OK l w K cc nl own d mc ms) (hd : decode cc pc = .ok (.lookupswitch dflt ps, len)) (hp : (ps.toList.zip (ps.toList.drop 1)).all (fun (a, next) => a.1 < next.1) = true) (ho : Op.lookupswitch.offset ps.toList dflt x.toInt = off) (ht : (pc : Int) + off = (tgt : Int)) (k : G l w K tgt lv st σ) : G l w K pc lv (.int x :: st) σ := by
  obtain ⟨⟨p, e, R, s, m, args, below, meth, c⟩, ⟨nL, cells, slots⟩, Q, A⟩ := K
  obtain ⟨⟨hx, hb, hml, hown, hts⟩, hK, hj, hA, hST, hlk, hR, hn, hmc, hms⟩ := C
  intro H ls locs hl hP hS
  exact lv_lookup hx hb hd hp ho ht (k H ls locs hl hP hS)
theorem ne_toInt {x v : Int32} (h : ¬ x = v) : x.toInt ≠ v.toInt := fun q => h (Int32.toInt_inj.mp q)
/-! ===== fields ===== -/
/-- a field's words: class number ci, slot j -/
def FL (own : String) (idx ci j : Nat) : Prop := ∃ (C : String) (T : u_T) (Nf : Nat), vwCl[ci]? = some (C, T, Nf) ∧ j < Nf ∧ (∀ x ∈ u_ws C T Nf, x ∈ gt) ∧ Cond.fieldLink own idx C (T j).2.1 (T j).2.2.1 ∈ gt
def FP (own : String) (idx ci j : Nat) (ty : FieldType) : Prop := ∃ (C : String) (T : u_T) (Nf : Nat) (ty0 : Nat → FieldType), vwCl[ci]? = some (C, T, Nf) ∧ j < Nf ∧ (∀ x ∈ u_ws C T Nf, x ∈ gt) ∧ Cond.fieldLink own idx C (T j).2.1 (T j).2.2.1 ∈ gt ∧ (∀ k, k < Nf → parseFieldDescriptor (T k).2.2.1 = some (ty0 k)) ∧ (∀ a, a < Nf → ∀ b, b < Nf → a ≠ b → (T a).2.1 ≠ (T b).2.1) ∧ (T j).2.2.2 = false ∧ parseFieldDescriptor (T j).2.2.1 = some ty ∧ (T j).1 = C
def FS (own : String) (idx ci j : Nat) : Prop := ∃ (C : String) (T : u_T) (Nf : Nat), vwCl[ci]? = some (C, T, Nf) ∧ (T j).1 = C
theorem g_get {idx ci j k0 : Nat} {fs : List Value} {v : Value} (C : OK l w K cc nl own d mc ms) (hF : FL own idx ci j) (hS1 : FS own idx ci j) (hk : k0 < wN w) (he : shp w k0 (σ k0) = .inr (ci, fs)) (hv : fs[j]? = some v) (hd : decode cc pc = .ok (.getfield idx, 3)) (k : G l w K (pc + 3) lv (v :: st) σ) : G l w K pc lv (.ref (wA w k0) :: st) σ := by
  obtain ⟨⟨p, e, R, s, m, args, below, meth, c⟩, ⟨nL, cells, slots⟩, Q, A⟩ := K
  obtain ⟨⟨hx, hb, hml, hown, hts⟩, hK, hj, hA, hST, hlk, hR, hn, hmc, hms⟩ := C
  obtain ⟨C, T, Nf, h1, h2, h3, h4⟩ := hF
  obtain ⟨C', T', Nf', h1', h5⟩ := hS1
  rw [h1] at h1'
  cases h1'
  intro H ls locs hl hP hS
  exact va_get (C := C) (T := T) (N := Nf) hx hb hts h3 hown hK hP k0 (pw_a hk he) h1 j h2 (hts _ h4) (fun _ h9 => by rw [h5] at h9; exact h9) hv hd (k H ls locs hl hP hS)
theorem g_put {idx ci j k0 : Nat} {fs : List Value} {x : Int32} {ty : FieldType} (C : OK l w K cc nl own d mc ms) (hF : FP own idx ci j ty) (hk : k0 < wN w) (he : shp w k0 (σ k0) = .inr (ci, fs)) (hset : shp w k0 (upd (σ k0) j x) = .inr (ci, fs.set j (.int x))) (hlen : j < fs.length) (hnr : narrow ty (.int x) = .int x) (hfit : fits ty (.int x) = true) (hd : decode cc pc = .ok (.putfield idx, 3)) (k : G l w K (pc + 3) lv st (up σ k0 j x)) : G l w K pc lv (.int x :: .ref (wA w k0) :: st) σ := by
  obtain ⟨⟨p, e, R, s, m, args, below, meth, c⟩, ⟨nL, cells, slots⟩, Q, A⟩ := K
  obtain ⟨⟨hx, hb, hml, hown, hts⟩, hK, hj, hA, hST, hlk, hR, hn, hmc, hms⟩ := C
  obtain ⟨C, T, Nf, ty0, h1, h2, h3, h4, h5, h6, h7, h8, h9⟩ := hF
  intro H ls locs hl hP hS
  refine va_put (C := C) (T := T) (N := Nf) (ty := ty) hx hb hts h3 ty0 h5 h6 hown hK hP hj.D hS k0 (pw_a hk he) h1 j h2 (hts _ h4) (fun _ q => by rw [h9] at q; exact q) h7 h8 hnr hfit hlen hd (fun H1 locs1 hP1 hD1 hS1 => ?_)
  rw [pw_st hset] at hP1
  exact k H1 ls locs1 hl hP1 hS1
/-! ===== arrays ===== -/
theorem g_iald {k0 n : Nat} {i : Int32} (C : OK l w K cc nl own d mc ms) (hk : k0 < wN w) (he : shp w k0 = aI w n) (hin : vp_in i n) (hd : decode cc pc = .ok (.iaload, 1)) (k : G l w K (pc + 1) lv (.int (σ k0 i.toNatClampNeg) :: st) σ) : G l w K pc lv (.int i :: .ref (wA w k0) :: st) σ := by
  obtain ⟨⟨p, e, R, s, m, args, below, meth, c⟩, ⟨nL, cells, slots⟩, Q, A⟩ := K
  obtain ⟨⟨hx, hb, hml, hown, hts⟩, hK, hj, hA, hST, hlk, hR, hn, hmc, hms⟩ := C
  intro H ls locs hl hP hS
  exact va_iald hx hb hK hP k0 0 (pw_a hk (by rw [he])) rfl hin hd (k H ls locs hl hP hS)
theorem g_iast {k0 n : Nat} {i x : Int32} (C : OK l w K cc nl own d mc ms) (hk : k0 < wN w) (he : shp w k0 = aI w n) (hin : vp_in i n) (hd : decode cc pc = .ok (.iastore, 1)) (k : G l w K (pc + 1) lv st (up σ k0 i.toNatClampNeg x)) : G l w K pc lv (.int x :: .int i :: .ref (wA w k0) :: st) σ := by
  obtain ⟨⟨p, e, R, s, m, args, below, meth, c⟩, ⟨nL, cells, slots⟩, Q, A⟩ := K
  obtain ⟨⟨hx, hb, hml, hown, hts⟩, hK, hj, hA, hST, hlk, hR, hn, hmc, hms⟩ := C
  intro H ls locs hl hP hS
  refine va_iast hx hb hK hP hj.D hS k0 0 (pw_a hk (by rw [he])) rfl hin hd (fun H1 locs1 hP1 hD1 hS1 => ?_)
  rw [pw_st (g := upd (σ k0) i.toNatClampNeg x) (by rw [he])] at hP1
  exact k H1 ls locs1 hl hP1 hS1
theorem g_cald {k0 n : Nat} {i : Int32} (C : OK l w K cc nl own d mc ms) (hk : k0 < wN w) (he : shp w k0 = aC w n) (hin : vp_in i n) (hd : decode cc pc = .ok (.caload, 1)) (k : G l w K (pc + 1) lv (.int (σ k0 i.toNatClampNeg) :: st) σ) : G l w K pc lv (.int i :: .ref (wA w k0) :: st) σ := by
  obtain ⟨⟨p, e, R, s, m, args, below, meth, c⟩, ⟨nL, cells, slots⟩, Q, A⟩ := K
  obtain ⟨⟨hx, hb, hml, hown, hts⟩, hK, hj, hA, hST, hlk, hR, hn, hmc, hms⟩ := C
  intro H ls locs hl hP hS
  exact va_cald hx hb hK hP k0 1 (pw_a hk (by rw [he])) rfl hin hd (k H ls locs hl hP hS)
theorem g_cast {k0 n : Nat} {i x : Int32} (C : OK l w K cc nl own d mc ms) (hk : k0 < wN w) (he : shp w k0 = aC w n) (hin : vp_in i n) (hd : decode cc pc = .ok (.castore, 1)) (k : G l w K (pc + 1) lv st (up σ k0 i.toNatClampNeg (vp_nar .char x))) : G l w K pc lv (.int x :: .int i :: .ref (wA w k0) :: st) σ := by
  obtain ⟨⟨p, e, R, s, m, args, below, meth, c⟩, ⟨nL, cells, slots⟩, Q, A⟩ := K
  obtain ⟨⟨hx, hb, hml, hown, hts⟩, hK, hj, hA, hST, hlk, hR, hn, hmc, hms⟩ := C
  intro H ls locs hl hP hS
  refine va_cast hx hb hK hP hj.D hS k0 1 (pw_a hk (by rw [he])) rfl hin hd (fun H1 locs1 hP1 hD1 hS1 => ?_)
  rw [pw_st (g := upd (σ k0) i.toNatClampNeg (vp_nar .char x)) (by rw [he])] at hP1
  exact k H1 ls locs1 hl hP1 hS1
theorem g_alen {k0 n : Nat} {v : Int32} (C : OK l w K cc nl own d mc ms) (hk : k0 < wN w) (he : shp w k0 = aI w n) (hv : Int32.ofNat n = v) (hd : decode cc pc = .ok (.arraylength, 1)) (k : G l w K (pc + 1) lv (.int v :: st) σ) : G l w K pc lv (.ref (wA w k0) :: st) σ := by
  obtain ⟨⟨p, e, R, s, m, args, below, meth, c⟩, ⟨nL, cells, slots⟩, Q, A⟩ := K
  obtain ⟨⟨hx, hb, hml, hown, hts⟩, hK, hj, hA, hST, hlk, hR, hn, hmc, hms⟩ := C
  intro H ls locs hl hP hS
  exact va_alen hx hb hK hP k0 0 (pw_a hk (by rw [he])) rfl hv hd (k H ls locs hl hP hS)
theorem g_alenC {k0 n : Nat} {v : Int32} (C : OK l w K cc nl own d mc ms) (hk : k0 < wN w) (he : shp w k0 = aC w n) (hv : Int32.ofNat n = v) (hd : decode cc pc = .ok (.arraylength, 1)) (k : G l w K (pc + 1) lv (.int v :: st) σ) : G l w K pc lv (.ref (wA w k0) :: st) σ := by
  obtain ⟨⟨p, e, R, s, m, args, below, meth, c⟩, ⟨nL, cells, slots⟩, Q, A⟩ := K
  obtain ⟨⟨hx, hb, hml, hown, hts⟩, hK, hj, hA, hST, hlk, hR, hn, hmc, hms⟩ := C
  intro H ls locs hl hP hS
  exact va_alen hx hb hK hP k0 1 (pw_a hk (by rw [he])) rfl hv hd (k H ls locs hl hP hS)
theorem g_aald {k0 b : Nat} {i : Int32} (C : OK l w K cc nl own d mc ms) (hk : k0 < wN w) (he : shp w k0 = fun _ => aO w b) (hin : vp_in i 4) (hd : decode cc pc = .ok (.aaload, 1)) (k : G l w K (pc + 1) lv (.ref (wA w (b + 5 + i.toNatClampNeg)) :: st) σ) : G l w K pc lv (.int i :: .ref (wA w k0) :: st) σ := by
  obtain ⟨⟨p, e, R, s, m, args, below, meth, c⟩, ⟨nL, cells, slots⟩, Q, A⟩ := K
  obtain ⟨⟨hx, hb, hml, hown, hts⟩, hK, hj, hA, hST, hlk, hR, hn, hmc, hms⟩ := C
  intro H ls locs hl hP hS
  have hlt : i.toNatClampNeg < 4 := Nat.not_le.mp fun q => hin (Or.inr q)
  have h1 : (pw w σ)[k0]? = some (wA w k0, aO w b) := pw_a hk (by rw [he])
  exact W.aald (v := .ref (wA w (b + 5 + i.toNatClampNeg))) (ty := .array .int) hx hb (hP k0 _ h1) ((hK.2 2 _ rfl).1 4 (fun j => va_rf (some (wA w (b + 5 + j))))) rfl (fun q => by cases q) (by show ¬ (i < 0 ∨ (arrV _ _ _).slots.size ≤ _); rw [arrV_size]; exact hin) (by show (arrV _ _ _).slots[_]? = _; rw [arrV_read _ _ hlt]; rfl) rfl rfl hd (k H ls locs hl hP hS)
theorem g_getM {idx : Nat} (C : OK l w K cc nl own d mc ms) (hF : Cond.fieldLink own idx RX4 "MOST_OF_SETTING" "[I" ∈ gt) (hd : decode cc pc = .ok (.getstatic idx, 3)) (k : G l w K (pc + 3) lv (.ref w.2.2.2.2.1.1 :: st) σ) : G l w K pc lv st σ := by
  obtain ⟨⟨p, e, R, s, m, args, below, meth, c⟩, ⟨nL, cells, slots⟩, Q, A⟩ := K
  obtain ⟨⟨hx, hb, hml, hown, hts⟩, hK, hj, hA, hST, hlk, hR, hn, hmc, hms⟩ := C
  intro H ls locs hl hP hS
  exact va_gets hx hb hST.1.1 hS hown (hts _ hF) (fun _ q => q) hd (k H ls locs hl hP hS)
theorem g_getMN (C : OK l w K cc nl RX1 d mc ms) (hd : decode cc pc = .ok (.getstatic 50, 3)) (k : G l w K (pc + 3) lv (.ref w.2.2.2.2.1.1 :: st) σ) : G l w K pc lv st σ := by
  obtain ⟨⟨p, e, R, s, m, args, below, meth, c⟩, ⟨nL, cells, slots⟩, Q, A⟩ := K
  obtain ⟨⟨hx, hb, hml, hown, hts⟩, hK, hj, hA, hST, hlk, hR, hn, hmc, hms⟩ := C
  intro H ls locs hl hP hS
  exact va_getsN (host := RX4) (C := RX4) (n := "MOST_OF_SETTING") (d := "[I") hx hb hST.1.1 hS hown (va_Nw.use (w := nestF1) rfl hST.2.2.2.2.2) (fun _ q => q) hd (k H ls locs hl hP hS)
theorem g_getT {idx : Nat} (C : OK l w K cc nl own d mc ms) (hF : Cond.fieldLink own idx RX4 "THREES" "[I" ∈ gt) (hd : decode cc pc = .ok (.getstatic idx, 3)) (k : G l w K (pc + 3) lv (.ref w.2.2.2.2.1.2 :: st) σ) : G l w K pc lv st σ := by
  obtain ⟨⟨p, e, R, s, m, args, below, meth, c⟩, ⟨nL, cells, slots⟩, Q, A⟩ := K
  obtain ⟨⟨hx, hb, hml, hown, hts⟩, hK, hj, hA, hST, hlk, hR, hn, hmc, hms⟩ := C
  intro H ls locs hl hP hS
  exact va_gets hx hb hST.2.1.1 hS hown (hts _ hF) (fun _ q => q) hd (k H ls locs hl hP hS)
theorem g_aldM {i : Int32} (C : OK l w K cc nl own d mc ms) (hin : vp_in i 6) (hd : decode cc pc = .ok (.iaload, 1)) (k : G l w K (pc + 1) lv (.int (mosF i.toNatClampNeg) :: st) σ) : G l w K pc lv (.int i :: .ref w.2.2.2.2.1.1 :: st) σ := by
  obtain ⟨⟨p, e, R, s, m, args, below, meth, c⟩, ⟨nL, cells, slots⟩, Q, A⟩ := K
  obtain ⟨⟨hx, hb, hml, hown, hts⟩, hK, hj, hA, hST, hlk, hR, hn, hmc, hms⟩ := C
  intro H ls locs hl hP hS
  exact va_ti hx hb hST.1.2 hS hin rfl hd (k H ls locs hl hP hS)
theorem g_aldT {i : Int32} (C : OK l w K cc nl own d mc ms) (hin : vp_in i 4) (hd : decode cc pc = .ok (.iaload, 1)) (k : G l w K (pc + 1) lv (.int (thrF i.toNatClampNeg) :: st) σ) : G l w K pc lv (.int i :: .ref w.2.2.2.2.1.2 :: st) σ := by
  obtain ⟨⟨p, e, R, s, m, args, below, meth, c⟩, ⟨nL, cells, slots⟩, Q, A⟩ := K
  obtain ⟨⟨hx, hb, hml, hown, hts⟩, hK, hj, hA, hST, hlk, hR, hn, hmc, hms⟩ := C
  intro H ls locs hl hP hS
  exact va_ti hx hb hST.2.1.2 hS hin rfl hd (k H ls locs hl hP hS)
/-! ===== calls ===== -/
def dOK (y : MethodName) (n : Nat) : Prop := y.cls ≠ "java/lang/invoke/MethodHandle" ∧ y.cls ≠ "java/lang/invoke/VarHandle" ∧ (parseMethodDescriptor y.desc).map (fun d => d.parameters.length) = some n
def MV (own : String) (idx : Nat) (y : MethodName) (bytes : ByteArray) (maxL : Nat) (ret : Option FieldType) (n ci : Nat) : Prop := Cond.methodLink own idx y ∈ gt ∧ Cond.instanceMethod y ∈ gt ∧ Cond.selects y.cls y y ∈ gt ∧ Cond.initialized y.cls ∈ gt ∧ Cond.code y bytes maxL ret ∈ gt ∧ dOK y n ∧ maxL ≤ 40 ∧ ∃ (T : u_T) (Nf : Nat), vwCl[ci]? = some (y.cls, T, Nf)
def MS (own : String) (idx : Nat) (y : MethodName) (bytes : ByteArray) (maxL : Nat) (ret : Option FieldType) (n : Nat) : Prop := Cond.methodLink own idx y ∈ gt ∧ Cond.static y ∈ gt ∧ Cond.initialized y.cls ∈ gt ∧ Cond.code y bytes maxL ret ∈ gt ∧ dOK y n ∧ maxL ≤ 40
def MN (y : MethodName) (bytes : ByteArray) (maxL : Nat) (ret : Option FieldType) (n : Nat) : Prop := Cond.static y ∈ gt ∧ Cond.initialized y.cls ∈ gt ∧ Cond.code y bytes maxL ret ∈ gt ∧ dOK y n ∧ maxL ≤ 40
theorem gt_goodIn {y : MethodName} {bytes : ByteArray} {maxL : Nat} {ret : Option FieldType} (h : Cond.code y bytes maxL ret ∈ gt) : GoodIn gt (Cond.code y bytes maxL ret :: gt) := fun x hx => by
  have hx' : x ∈ gt := (List.mem_cons.mp hx).elim (fun e => e ▸ h) id
  exact ⟨hx', good_of_word (gt_good hx')⟩
theorem mv_w {R : Room} {s : State} {args : Array Value} {own : String} {idx : Nat} {y : MethodName} {bytes : ByteArray} {maxL : Nat} {ret : Option FieldType} {n ci d d' mc ms mc' ms' : Nat} (h : MV own idx y bytes maxL ret n ci) (hts : ∀ x ∈ gt, x.before args s = true) (hR : R = rmv d mc ms) (hd : d' + 1 ≤ d) : CallW R s args own y.cls idx y bytes maxL ret (Cond.code y bytes maxL ret :: gt) (rmv d' mc' ms') mc' ms' n := by
  obtain ⟨h1, h2, h3, h4, h5, h6, h7, -⟩ := h
  refine ⟨callB_of n hts (gt_goodIn h5) rfl rfl rfl (hts _ h4) (hts _ h1) h6 ⟨?_, ?_⟩, hts _ h2, hts _ h3⟩
  · subst hR; exact hd
  · subst hR; show 8 + (maxL + 11) + 64 * d' ≤ 64 * d; omega
theorem ms_w {R : Room} {s : State} {args : Array Value} {own : String} {idx : Nat} {y : MethodName} {bytes : ByteArray} {maxL : Nat} {ret : Option FieldType} {n d d' mc ms mc' ms' : Nat} (h : MS own idx y bytes maxL ret n) (hts : ∀ x ∈ gt, x.before args s = true) (hR : R = rmv d mc ms) (hd : d' + 1 ≤ d) : CallB R s args own idx y bytes maxL ret (Cond.code y bytes maxL ret :: gt) (rmv d' mc' ms') mc' ms' n ∧ (Cond.static y).before args s = true := by
  obtain ⟨h1, h2, h4, h5, h6, h7⟩ := h
  refine ⟨callB_of n hts (gt_goodIn h5) rfl rfl rfl (hts _ h4) (hts _ h1) h6 ⟨?_, ?_⟩, hts _ h2⟩
  · subst hR; exact hd
  · subst hR; show 8 + (maxL + 11) + 64 * d' ≤ 64 * d; omega
theorem mn_w {R : Room} {s : State} {args : Array Value} {own host : String} {idx : Nat} {y : MethodName} {bytes : ByteArray} {maxL : Nat} {ret : Option FieldType} {n d d' mc ms mc' ms' : Nat} (h : MN y bytes maxL ret n) (hl : va_Nw (.methodLinkNest own idx y host) s) (hts : ∀ x ∈ gt, x.before args s = true) (hR : R = rmv d mc ms) (hd : d' + 1 ≤ d) : va_CN R s args own idx y host bytes maxL ret (Cond.code y bytes maxL ret :: gt) (rmv d' mc' ms') mc' ms' n ∧ (Cond.static y).before args s = true ∧ True := by
  obtain ⟨h2, h4, h5, h6, h7⟩ := h
  refine ⟨va_cnB n hts (gt_goodIn h5) rfl rfl rfl hl (hts _ h4) h6 ⟨?_, ?_⟩, hts _ h2, trivial⟩
  · subst hR; exact hd
  · subst hR; show 8 + (maxL + 11) + 64 * d' ≤ 64 * d; omega
theorem pA_sub {A : Nat → Prop} {s : State} {H : Heap} {locs : List Loc} (hj : pj w A) (hA : ∀ q, s.heap.size ≤ q → A q) (hS : va_S A s.heap H locs) : ∀ q, pA w H.size q → A q := by
  rintro q (⟨k, hk, rfl⟩ | h)
  · exact hj.2 k hk
  · exact hA q (Nat.le_trans hS.1 h)
theorem Pin.of {A : Nat → Prop} {s U : State} {H : Heap} {locs : List Loc} (hK : va_K (wD w) vwCl (tyw w) s) (hj : pj w A) (hA : ∀ q, s.heap.size ≤ q → A q) (hST : ST w A s s.heap) (hP : va_P (wD w) vwCl (pw w σ) H) (hS : va_S A s.heap H locs) (hU : U.heap = H) (hW : s.WarmedH U.vm) : Pin w σ H.size U :=
  ⟨by rw [hU], by rw [hU]; exact hP, va_K.moved hW.alike hK, ⟨hj.1, fun _ _ => trivial⟩, by rw [hU]; exact hST.go hW (fun a h1 h2 => hS.2.1 a h1 h2) (pA_sub hj hA hS)⟩

theorem g_callVI {y : MethodName} {bytes : ByteArray} {maxL n idx ci d' k0 : Nat} {ret : Option FieldType} {As rest stk fs : List Value} {post : Int32 → SG → Prop} (C : OK l w K cc nl own d mc ms) (hm : MV own idx y bytes maxL ret n ci) (ct : CtI l w y bytes maxL ret d' 0 0 (.ref (wA w k0) :: As) σ post) (hk : k0 < wN w) (he : shp w k0 (σ k0) = .inr (ci, fs)) (hAs : As.length = n) (hd' : d' + 1 ≤ d) (hst : stk = As.reverse ++ .ref (wA w k0) :: rest) (hcat : (rest.map fun v => v.category).sum ≤ 8) (hd : decode cc pc = .ok (.invokevirtual idx, 3)) (k : ∀ (r : Int32) (τ : SG), post r τ → G l w K (pc + 3) lv (.int r :: rest) τ) : G l w K pc lv stk σ := by
  obtain ⟨⟨p, e, R, s, m, args, below, meth, c⟩, ⟨nL, cells, slots⟩, Q, A⟩ := K
  obtain ⟨⟨hx, hb, hml, hown, hts⟩, hK, hj, hA, hST, hlk, hR, hn, hmc, hms⟩ := C
  subst hst
  intro H ls locs hl hP hS
  have hT := hm.2.2.2.2.2.2.2
  obtain ⟨T, Nf, hT⟩ := hT
  have hF := pA_sub hj hA hS
  refine va_calli (A1 := pA w H.size) (va_runV (As := As) (rest := rest) (C := y.cls) (b := wA w k0) ⟨hx, hb, hml, hown, hts⟩ (ct H.size) (mv_w hm hts hR hd') ⟨Pin.blind, va_recv hK hP hT (pw_a hk he), fun U hU hW => ⟨rfl, Pin.of hK hj hA hST hP hS hU hW⟩⟩ rfl hAs hl.1 rfl (lv_room hcat) hd ⟨?_, ?_⟩) hS (fun q _ h => hF q h) hF (fun r τ t H1 locs1 ht hvm hw hB hz1 hk1 hS1 => by subst ht; exact k r τ hw _ ls locs1 hl hB hS1)
  · subst hR; exact hmc
  · subst hR; exact hms
theorem g_callSI {y : MethodName} {bytes : ByteArray} {maxL n idx d' : Nat} {ret : Option FieldType} {As rest stk : List Value} {post : Int32 → SG → Prop} (C : OK l w K cc nl own d mc ms) (hm : MS own idx y bytes maxL ret n) (ct : CtI l w y bytes maxL ret d' 0 0 As σ post) (hAs : As.length = n) (hd' : d' + 1 ≤ d) (hst : stk = As.reverse ++ rest) (hcat : (rest.map fun v => v.category).sum ≤ 8) (hd : decode cc pc = .ok (.invokestatic idx, 3)) (k : ∀ (r : Int32) (τ : SG), post r τ → G l w K (pc + 3) lv (.int r :: rest) τ) : G l w K pc lv stk σ := by
  obtain ⟨⟨p, e, R, s, m, args, below, meth, c⟩, ⟨nL, cells, slots⟩, Q, A⟩ := K
  obtain ⟨⟨hx, hb, hml, hown, hts⟩, hK, hj, hA, hST, hlk, hR, hn, hmc, hms⟩ := C
  subst hst
  intro H ls locs hl hP hS
  have hF := pA_sub hj hA hS
  refine va_calli (A1 := pA w H.size) (va_runS (As := As) (rest := rest) ⟨hx, hb, hml, hown, hts⟩ (ct H.size) (ms_w hm hts hR hd') ⟨Pin.blind, fun U hU hW => ⟨rfl, Pin.of hK hj hA hST hP hS hU hW⟩⟩ rfl hAs hl.1 rfl (lv_room hcat) hd ⟨?_, ?_⟩) hS (fun q _ h => hF q h) hF (fun r τ t H1 locs1 ht hvm hw hB hz1 hk1 hS1 => by subst ht; exact k r τ hw _ ls locs1 hl hB hS1)
  · subst hR; exact hmc
  · subst hR; exact hms
theorem g_callVV {y : MethodName} {bytes : ByteArray} {maxL n idx ci d' k0 : Nat}  {As rest stk fs : List Value} {post : SG → Prop} (C : OK l w K cc nl own d mc ms) (hm : MV own idx y bytes maxL none n ci) (ct : CtV l w y bytes maxL d' 0 0 (.ref (wA w k0) :: As) σ post) (hk : k0 < wN w) (he : shp w k0 (σ k0) = .inr (ci, fs)) (hAs : As.length = n) (hd' : d' + 1 ≤ d) (hst : stk = As.reverse ++ .ref (wA w k0) :: rest) (hcat : (rest.map fun v => v.category).sum ≤ 8) (hd : decode cc pc = .ok (.invokevirtual idx, 3)) (k : ∀ τ : SG, post τ → G l w K (pc + 3) lv rest τ) : G l w K pc lv stk σ := by
  obtain ⟨⟨p, e, R, s, m, args, below, meth, c⟩, ⟨nL, cells, slots⟩, Q, A⟩ := K
  obtain ⟨⟨hx, hb, hml, hown, hts⟩, hK, hj, hA, hST, hlk, hR, hn, hmc, hms⟩ := C
  subst hst
  intro H ls locs hl hP hS
  have hT := hm.2.2.2.2.2.2.2
  obtain ⟨T, Nf, hT⟩ := hT
  have hF := pA_sub hj hA hS
  refine va_callv (A1 := pA w H.size) (va_runV (As := As) (rest := rest) (C := y.cls) (b := wA w k0) ⟨hx, hb, hml, hown, hts⟩ (ct H.size) (mv_w hm hts hR hd') ⟨Pin.blind, va_recv hK hP hT (pw_a hk he), fun U hU hW => ⟨rfl, Pin.of hK hj hA hST hP hS hU hW⟩⟩ rfl hAs hl.1 rfl (lv_room hcat) hd ⟨?_, ?_⟩) hS (fun q _ h => hF q h) hF (fun τ t H1 locs1 ht hvm hw hB hz1 hk1 hS1 => by subst ht; exact k τ hw _ ls locs1 hl hB hS1)
  · subst hR; exact hmc
  · subst hR; exact hms
theorem g_callSV {y : MethodName} {bytes : ByteArray} {maxL n idx d' : Nat}  {As rest stk : List Value} {post : SG → Prop} (C : OK l w K cc nl own d mc ms) (hm : MS own idx y bytes maxL none n) (ct : CtV l w y bytes maxL d' 0 0 As σ post) (hAs : As.length = n) (hd' : d' + 1 ≤ d) (hst : stk = As.reverse ++ rest) (hcat : (rest.map fun v => v.category).sum ≤ 8) (hd : decode cc pc = .ok (.invokestatic idx, 3)) (k : ∀ τ : SG, post τ → G l w K (pc + 3) lv rest τ) : G l w K pc lv stk σ := by
  obtain ⟨⟨p, e, R, s, m, args, below, meth, c⟩, ⟨nL, cells, slots⟩, Q, A⟩ := K
  obtain ⟨⟨hx, hb, hml, hown, hts⟩, hK, hj, hA, hST, hlk, hR, hn, hmc, hms⟩ := C
  subst hst
  intro H ls locs hl hP hS
  have hF := pA_sub hj hA hS
  refine va_callv (A1 := pA w H.size) (va_runS (As := As) (rest := rest) ⟨hx, hb, hml, hown, hts⟩ (ct H.size) (ms_w hm hts hR hd') ⟨Pin.blind, fun U hU hW => ⟨rfl, Pin.of hK hj hA hST hP hS hU hW⟩⟩ rfl hAs hl.1 rfl (lv_room hcat) hd ⟨?_, ?_⟩) hS (fun q _ h => hF q h) hF (fun τ t H1 locs1 ht hvm hw hB hz1 hk1 hS1 => by subst ht; exact k τ hw _ ls locs1 hl hB hS1)
  · subst hR; exact hmc
  · subst hR; exact hms
theorem g_callVL {y : MethodName} {bytes : ByteArray} {maxL n idx ci d' k0 : Nat}  {As rest stk fs : List Value} {post : Int64 → SG → Prop} (C : OK l w K cc nl own d mc ms) (hm : MV own idx y bytes maxL (some .long) n ci) (ct : CtL l w y bytes maxL d' 0 0 (.ref (wA w k0) :: As) σ post) (hk : k0 < wN w) (he : shp w k0 (σ k0) = .inr (ci, fs)) (hAs : As.length = n) (hd' : d' + 1 ≤ d) (hst : stk = As.reverse ++ .ref (wA w k0) :: rest) (hcat : (rest.map fun v => v.category).sum ≤ 8) (hd : decode cc pc = .ok (.invokevirtual idx, 3)) (k : ∀ (r : Int64) (τ : SG), post r τ → G l w K (pc + 3) lv (.long r :: rest) τ) : G l w K pc lv stk σ := by
  obtain ⟨⟨p, e, R, s, m, args, below, meth, c⟩, ⟨nL, cells, slots⟩, Q, A⟩ := K
  obtain ⟨⟨hx, hb, hml, hown, hts⟩, hK, hj, hA, hST, hlk, hR, hn, hmc, hms⟩ := C
  subst hst
  intro H ls locs hl hP hS
  have hT := hm.2.2.2.2.2.2.2
  obtain ⟨T, Nf, hT⟩ := hT
  have hF := pA_sub hj hA hS
  refine va_calll (A1 := pA w H.size) (va_runV (As := As) (rest := rest) (C := y.cls) (b := wA w k0) ⟨hx, hb, hml, hown, hts⟩ (ct H.size) (mv_w hm hts hR hd') ⟨Pin.blind, va_recv hK hP hT (pw_a hk he), fun U hU hW => ⟨rfl, Pin.of hK hj hA hST hP hS hU hW⟩⟩ rfl hAs hl.1 rfl (lv_room hcat) hd ⟨?_, ?_⟩) hS (fun q _ h => hF q h) hF (fun r τ t H1 locs1 ht hvm hw hB hz1 hk1 hS1 => by subst ht; exact k r τ hw _ ls locs1 hl hB hS1)
  · subst hR; exact hmc
  · subst hR; exact hms
theorem g_callSL {y : MethodName} {bytes : ByteArray} {maxL n idx d' : Nat}  {As rest stk : List Value} {post : Int64 → SG → Prop} (C : OK l w K cc nl own d mc ms) (hm : MS own idx y bytes maxL (some .long) n) (ct : CtL l w y bytes maxL d' 0 0 As σ post) (hAs : As.length = n) (hd' : d' + 1 ≤ d) (hst : stk = As.reverse ++ rest) (hcat : (rest.map fun v => v.category).sum ≤ 8) (hd : decode cc pc = .ok (.invokestatic idx, 3)) (k : ∀ (r : Int64) (τ : SG), post r τ → G l w K (pc + 3) lv (.long r :: rest) τ) : G l w K pc lv stk σ := by
  obtain ⟨⟨p, e, R, s, m, args, below, meth, c⟩, ⟨nL, cells, slots⟩, Q, A⟩ := K
  obtain ⟨⟨hx, hb, hml, hown, hts⟩, hK, hj, hA, hST, hlk, hR, hn, hmc, hms⟩ := C
  subst hst
  intro H ls locs hl hP hS
  have hF := pA_sub hj hA hS
  refine va_calll (A1 := pA w H.size) (va_runS (As := As) (rest := rest) ⟨hx, hb, hml, hown, hts⟩ (ct H.size) (ms_w hm hts hR hd') ⟨Pin.blind, fun U hU hW => ⟨rfl, Pin.of hK hj hA hST hP hS hU hW⟩⟩ rfl hAs hl.1 rfl (lv_room hcat) hd ⟨?_, ?_⟩) hS (fun q _ h => hF q h) hF (fun r τ t H1 locs1 ht hvm hw hB hz1 hk1 hS1 => by subst ht; exact k r τ hw _ ls locs1 hl hB hS1)
  · subst hR; exact hmc
  · subst hR; exact hms
theorem g_callNI {y : MethodName} {bytes : ByteArray} {maxL n idx d' : Nat} {host : String} {ret : Option FieldType} {As rest stk : List Value} {post : Int32 → SG → Prop} (C : OK l w K cc nl own d mc ms) (hm : MN y bytes maxL ret n) (hnest : ∀ (U : State) (A : Nat → Prop), ST w A U U.heap → va_Nw (.methodLinkNest own idx y host) U) (ct : CtI l w y bytes maxL ret d' 0 0 As σ post) (hAs : As.length = n) (hd' : d' + 1 ≤ d) (hst : stk = As.reverse ++ rest) (hcat : (rest.map fun v => v.category).sum ≤ 8) (hd : decode cc pc = .ok (.invokestatic idx, 3)) (k : ∀ (r : Int32) (τ : SG), post r τ → G l w K (pc + 3) lv (.int r :: rest) τ) : G l w K pc lv stk σ := by
  obtain ⟨⟨p, e, R, s, m, args, below, meth, c⟩, ⟨nL, cells, slots⟩, Q, A⟩ := K
  obtain ⟨⟨hx, hb, hml, hown, hts⟩, hK, hj, hA, hST, hlk, hR, hn, hmc, hms⟩ := C
  subst hst
  intro H ls locs hl hP hS
  have hF := pA_sub hj hA hS
  refine va_calli (A1 := pA w H.size) (va_runSN (As := As) (rest := rest) ⟨hx, hb, hml, hown, hts⟩ (ct H.size) (mn_w hm (hnest s A hST) hts hR hd') ⟨Pin.blind, fun U hU hW => ⟨rfl, Pin.of hK hj hA hST hP hS hU hW⟩⟩ rfl hAs hl.1 rfl (lv_room hcat) hd ⟨?_, ?_⟩) hS (fun q _ h => hF q h) hF (fun r τ t H1 locs1 ht hvm hw hB hz1 hk1 hS1 => by subst ht; exact k r τ hw _ ls locs1 hl hB hS1)
  · subst hR; exact hmc
  · subst hR; exact hms
theorem g_min {idx : Nat} {x y : Int32} (C : OK l w K cc nl own d mc ms) (h1 : Cond.methodLink own idx Lib.Math.min.name ∈ gt) (h2 : Cond.static Lib.Math.min.name ∈ gt) (h3 : Cond.initialized "java/lang/Math" ∈ gt) (h4 : Cond.code Lib.Math.min.name Lib.Math.min.code 2 (some .int) ∈ gt) (hd1 : 1 ≤ d) (hcat : (st.map fun v => v.category).sum ≤ 8) (hd : decode cc pc = .ok (.invokestatic idx, 3)) (k : G l w K (pc + 3) lv (.int (if y < x then y else x) :: st) σ) : G l w K pc lv (.int y :: .int x :: st) σ := by
  obtain ⟨⟨p, e, R, s, m, args, below, meth, c⟩, ⟨nL, cells, slots⟩, Q, A⟩ := K
  obtain ⟨⟨hx, hb, hml, hown, hts⟩, hK, hj, hA, hST, hlk, hR, hn, hmc, hms⟩ := C
  intro H ls locs hl hP hS
  refine va_mmin hx hb (by rw [hml]; exact hl.1.symm) hown (hts _ h1) (hts _ h2) (hts _ h3) (hts _ h4) ?_ ?_ ?_ ?_ hd (k H ls locs hl hP hS)
  · subst hR; exact hd1
  · subst hR; show _ ≤ 64 * d; omega
  · subst hR; exact hmc
  · subst hR; exact hms
theorem g_max {idx : Nat} {x y : Int32} (C : OK l w K cc nl own d mc ms) (h1 : Cond.methodLink own idx Lib.Math.max.name ∈ gt) (h2 : Cond.static Lib.Math.max.name ∈ gt) (h3 : Cond.initialized "java/lang/Math" ∈ gt) (h4 : Cond.code Lib.Math.max.name Lib.Math.max.code 2 (some .int) ∈ gt) (hd1 : 1 ≤ d) (hcat : (st.map fun v => v.category).sum ≤ 8) (hd : decode cc pc = .ok (.invokestatic idx, 3)) (k : G l w K (pc + 3) lv (.int (if x < y then y else x) :: st) σ) : G l w K pc lv (.int y :: .int x :: st) σ := by
  obtain ⟨⟨p, e, R, s, m, args, below, meth, c⟩, ⟨nL, cells, slots⟩, Q, A⟩ := K
  obtain ⟨⟨hx, hb, hml, hown, hts⟩, hK, hj, hA, hST, hlk, hR, hn, hmc, hms⟩ := C
  intro H ls locs hl hP hS
  refine va_mmax hx hb (by rw [hml]; exact hl.1.symm) hown (hts _ h1) (hts _ h2) (hts _ h3) (hts _ h4) ?_ ?_ ?_ ?_ hd (k H ls locs hl hP hS)
  · subst hR; exact hd1
  · subst hR; show _ ≤ 64 * d; omega
  · subst hR; exact hmc
  · subst hR; exact hms
end GR
