/-! ===== the making of objects ===== -/
abbrev KB : Type := (Program × Env × Room × State × MethodId × Array Value × List Frame × Method × Code) × Nat × (State → Prop) × (Nat → Prop)
def BW (l : Launch) (w : WD) : KB → Nat → Nat → Nat → List (Nat × Value) → List Value → va_W → Prop
  | ((p, e, R, s, m, args, below, meth, c), nL, Q, A), cells, slots, pc, lv, st, ws => ∀ (H : Heap) (ls : Array Slot) (locs : List Loc), lv_has ls nL lv → va_P (wD w) vwCl ws H → va_D A ws → va_S A s.heap H locs → W p l e R s m args below meth c H locs cells slots Q (F0 m pc ls st)
def nstI1 : Cond := .methodLinkNest RX4 11 yX1_init RX4
def nstI2 : Cond := .methodLinkNest RX4 24 yX3_init RX4
def nstI3 : Cond := .methodLinkNest RX4 31 yX0_init RX4
def nstI4 : Cond := .methodLinkNest RX4 38 yX2_init RX4
/-- the nest's words, where b asks them -/
def NI (b : Bool) (U : State) : Prop := b = true → va_Nw nstI1 U ∧ va_Nw nstI2 U ∧ va_Nw nstI3 U ∧ va_Nw nstI4 U ∧ (Cond.arrayOver (.array .int)).before #[] U = true
theorem ao_al {s U : State} (h : (Cond.arrayOver (.array .int)).before #[] s = true) (ha : s.vm.Alike U.vm) : (Cond.arrayOver (.array .int)).before #[] U = true := (show (Cond.arrayOver (.array .int)).before #[] (s.setVm U.vm) = true from (Cond.arrayOver_setVmC (args := #[]) ha (.array .int)).trans h)
theorem NI.warm {b : Bool} {s U : State} (h : NI b s) (hW : s.WarmedH U.vm) : NI b U := fun z => ⟨va_Nw.warmM hW (h z).1, va_Nw.warmM hW (h z).2.1, va_Nw.warmM hW (h z).2.2.1, va_Nw.warmM hW (h z).2.2.2.1, ao_al (h z).2.2.2.2 hW.alike⟩
theorem NI.same {b : Bool} {s U : State} (h : NI b s) (hv : U.vm = s.vm) : NI b U := fun z => ⟨va_Nw.same rfl hv.symm (h z).1, va_Nw.same rfl hv.symm (h z).2.1, va_Nw.same rfl hv.symm (h z).2.2.1, va_Nw.same rfl hv.symm (h z).2.2.2.1, ao_al (h z).2.2.2.2 (by rw [hv]; exact Vm.Alike.refl s.vm)⟩
def OKB (l : Launch) (w : WD) (bz : Bool) : KB → ByteArray → Nat → String → Nat → Nat → Nat → Prop
  | ((p, _, R, s, m, args, _, meth, c), nL, _, A), cc, nl, own, d, mc, ms => CallFix p m c cc nL s args gt own ∧ va_K (wD w) vwCl (tyw w) s ∧ (∀ q, s.heap.size ≤ q → A q) ∧ meth.locks = false ∧ R = rmv d mc ms ∧ nL = nl ∧ (own = RL ∨ meth.name = "<init>") ∧ NI bz s
/-- an object's making: e0 the object as it is born, F the world behind it by its cells' places -/
def CtB (l : Launch) (w : WD) (bz : Bool) (y : MethodName) (cc : ByteArray) (maxL d mc ms : Nat) (e0 : va_E) (F : (Nat → Nat) → va_W) : Prop :=
  ∀ h0 sz : Nat, Met l y (.code y cc maxL none :: gt) (rmv d mc ms) (va_Pc [.ref h0] (fun U => U.heap.size = sz ∧ va_P (wD w) vwCl [(h0, e0)] U.heap ∧ va_K (wD w) vwCl (tyw w) U ∧ va_D (fun _ => True) [(h0, e0)] ∧ NI bz U)) (va_Qv (fun _ : Nat → Nat => True) (fun adr t => adr 0 = h0 ∧ va_P (wD w) vwCl (F adr) t.heap ∧ va_D (va_A [(h0, e0)] sz) (F adr)) (va_A [(h0, e0)] sz)) mc ms (va_A [(h0, e0)] sz)
def RB (w : WD) : KB → Nat → Nat → Nat → va_E → ((Nat → Nat) → va_W) → Prop
  | ((_, _, _, s, _, args, below, meth, _), _, Q, A), mc, ms, h0, e0, F => meth.sig.returnType = none ∧ A = va_A [(h0, e0)] s.heap.size ∧ Q = MQ below (va_Qv (fun _ : Nat → Nat => True) (fun adr t => adr 0 = h0 ∧ va_P (wD w) vwCl (F adr) t.heap ∧ va_D A (F adr)) A) args s mc ms A
theorem CtB.mk {l : Launch} {w : WD} {bz : Bool} {y : MethodName} {cc : ByteArray} {maxL d mc ms : Nat} {e0 : va_E} {F : (Nat → Nat) → va_W} (hy : plainName y.cls = true) (hA : 1 ≤ maxL) (hin : y.name = "<init>")
    (body : ∀ (h0 : Nat) (K : KB), OKB l w bz K cc maxL y.cls d mc ms → RB w K mc ms h0 e0 F → BW l w K 0 0 0 [(0, .ref h0)] [] [(h0, e0)]) : CtB l w bz y cc maxL d mc ms e0 F := by
  intro h0 sz
  refine Met.ofW (cc := cc) (maxL := maxL) (ret := none) hy rfl ?_
  intro p e s m args below meth c s₁ B hml hv
  obtain ⟨rfl, hsz, hP, hK, hD, hZ⟩ := hv
  subst hsz
  have hts : ∀ x ∈ gt, x.before [Value.ref h0].toArray s = true := fun x hx => atoms_spec B.pre x (List.mem_cons_of_mem _ hx)
  have hnm : meth.name = "<init>" := (name_of_methodNamed B.named B.method).1.trans hin
  have h := body h0 ((p, e, rmv d mc ms, s, m, [Value.ref h0].toArray, below, meth, c), maxL, MQ below (va_Qv (fun _ : Nat → Nat => True) (fun adr t => adr 0 = h0 ∧ va_P (wD w) vwCl (F adr) t.heap ∧ va_D (va_A [(h0, e0)] s.heap.size) (F adr)) (va_A [(h0, e0)] s.heap.size)) [Value.ref h0].toArray s mc ms (va_A [(h0, e0)] s.heap.size), va_A [(h0, e0)] s.heap.size)
    ⟨⟨B.exec, B.bytes, hml, findClass_of_methodNamed B.named, hts⟩, hK, fun q hq => Or.inr hq, B.notSynchronized, rfl, rfl, Or.inr hnm, hZ⟩ ⟨B.returns, rfl, rfl⟩
  have hl := lv_entry [Value.ref h0] (n := maxL) hA
  rw [lg_entry_eq]
  exact h s.heap _ [] hl hP hD.self va_S.rf
section BR
variable {l : Launch} {w : WD} {bz : Bool} {K : KB} {cc : ByteArray} {own : String} {nl d mc ms cells slots pc : Nat} {lv : List (Nat × Value)} {st : List Value} {ws : va_W}
theorem b_iconst {n : Int} {v : Int32} (C : OKB l w bz K cc nl own d mc ms) (hd : decode cc pc = .ok (.iconst n, 1)) (hv : Int32.ofInt n = v) (k : BW l w K cells slots (pc + 1) lv (.int v :: st) ws) : BW l w K cells slots pc lv (st) ws := by
  obtain ⟨⟨p, e, R, s, m, args, below, meth, c⟩, nL, Q, A⟩ := K
  obtain ⟨⟨hx, hb, hml, hown, hts⟩, hK, hA, hlk, hR, hn, hin, hZ⟩ := C
  intro H ls locs hl hP hD hS
  exact lv_iconst hx hb hd hv (k H ls locs hl hP hD hS)
theorem b_bipush {n : Int} {v : Int32} (C : OKB l w bz K cc nl own d mc ms) (hd : decode cc pc = .ok (.bipush n, 2)) (hv : (Int8.ofInt n).toInt32 = v) (k : BW l w K cells slots (pc + 2) lv (.int v :: st) ws) : BW l w K cells slots pc lv (st) ws := by
  obtain ⟨⟨p, e, R, s, m, args, below, meth, c⟩, nL, Q, A⟩ := K
  obtain ⟨⟨hx, hb, hml, hown, hts⟩, hK, hA, hlk, hR, hn, hin, hZ⟩ := C
  intro H ls locs hl hP hD hS
  exact lv_bipush hx hb hd hv (k H ls locs hl hP hD hS)
theorem b_iload_n {k0 : Fin 4} {i : Nat} {x : Int32} (C : OKB l w bz K cc nl own d mc ms) (hd : decode cc pc = .ok (.iload_n k0, 1)) (hi : (k0 : Nat) = i) (hg : lvg lv i = some (.int x)) (k : BW l w K cells slots (pc + 1) lv (.int x :: st) ws) : BW l w K cells slots pc lv (st) ws := by
  obtain ⟨⟨p, e, R, s, m, args, below, meth, c⟩, nL, Q, A⟩ := K
  obtain ⟨⟨hx, hb, hml, hown, hts⟩, hK, hA, hlk, hR, hn, hin, hZ⟩ := C
  intro H ls locs hl hP hD hS
  exact lv_iload_n hx hb hd hi (lvg_at hl hg) (k H ls locs hl hP hD hS)
theorem b_istore_n {k0 : Fin 4} {i : Nat} {x : Int32} {lv' : List (Nat × Value)} (C : OKB l w bz K cc nl own d mc ms) (hd : decode cc pc = .ok (.istore_n k0, 1)) (hi : (k0 : Nat) = i) (hb1 : i < nl) (hg : lvs lv i (.int x) = lv') (k : BW l w K cells slots (pc + 1) lv' (st) ws) : BW l w K cells slots pc lv (.int x :: st) ws := by
  obtain ⟨⟨p, e, R, s, m, args, below, meth, c⟩, nL, Q, A⟩ := K
  obtain ⟨⟨hx, hb, hml, hown, hts⟩, hK, hA, hlk, hR, hn, hin, hZ⟩ := C
  intro H ls locs hl hP hD hS
  exact lv_istore_n hx hb hd hi hl (by rw [hn]; exact hb1) hg (fun ls hl => k H ls locs hl hP hD hS)
theorem b_aload_n {k0 : Fin 4} {i : Nat} {x : Nat} (C : OKB l w bz K cc nl own d mc ms) (hd : decode cc pc = .ok (.aload_n k0, 1)) (hi : (k0 : Nat) = i) (hg : lvg lv i = some (.ref x)) (k : BW l w K cells slots (pc + 1) lv (.ref x :: st) ws) : BW l w K cells slots pc lv (st) ws := by
  obtain ⟨⟨p, e, R, s, m, args, below, meth, c⟩, nL, Q, A⟩ := K
  obtain ⟨⟨hx, hb, hml, hown, hts⟩, hK, hA, hlk, hR, hn, hin, hZ⟩ := C
  intro H ls locs hl hP hD hS
  exact lv_aload_n hx hb hd hi (lvg_at hl hg) (k H ls locs hl hP hD hS)
theorem b_astore_n {k0 : Fin 4} {i : Nat} {x : Nat} {lv' : List (Nat × Value)} (C : OKB l w bz K cc nl own d mc ms) (hd : decode cc pc = .ok (.astore_n k0, 1)) (hi : (k0 : Nat) = i) (hb1 : i < nl) (hg : lvs lv i (.ref x) = lv') (k : BW l w K cells slots (pc + 1) lv' (st) ws) : BW l w K cells slots pc lv (.ref x :: st) ws := by
  obtain ⟨⟨p, e, R, s, m, args, below, meth, c⟩, nL, Q, A⟩ := K
  obtain ⟨⟨hx, hb, hml, hown, hts⟩, hK, hA, hlk, hR, hn, hin, hZ⟩ := C
  intro H ls locs hl hP hD hS
  exact lv_astore_n hx hb hd hi hl (by rw [hn]; exact hb1) hg (fun ls hl => k H ls locs hl hP hD hS)
theorem b_iinc {i : Nat} {n : Int} {x v : Int32} {lv' : List (Nat × Value)} (C : OKB l w bz K cc nl own d mc ms) (hd : decode cc pc = .ok (.iinc i n, 3)) (hb1 : i < nl) (hk0 : lvg lv i = some (.int x)) (hv : x + Int32.ofInt n = v) (hg : lvs lv i (.int v) = lv') (k : BW l w K cells slots (pc + 3) lv' (st) ws) : BW l w K cells slots pc lv (st) ws := by
  obtain ⟨⟨p, e, R, s, m, args, below, meth, c⟩, nL, Q, A⟩ := K
  obtain ⟨⟨hx, hb, hml, hown, hts⟩, hK, hA, hlk, hR, hn, hin, hZ⟩ := C
  intro H ls locs hl hP hD hS
  exact lv_iinc hx hb hd hl (k := (lvg_mem hk0).choose) (lvg_mem hk0).choose_spec hv (by rw [hn]; exact hb1) hg (fun ls hl => k H ls locs hl hP hD hS)
theorem b_iadd {x y : Int32} (C : OKB l w bz K cc nl own d mc ms) (hd : decode cc pc = .ok (.iadd, 1)) (k : BW l w K cells slots (pc + 1) lv (.int (x + y) :: st) ws) : BW l w K cells slots pc lv (.int y :: .int x :: st) ws := by
  obtain ⟨⟨p, e, R, s, m, args, below, meth, c⟩, nL, Q, A⟩ := K
  obtain ⟨⟨hx, hb, hml, hown, hts⟩, hK, hA, hlk, hR, hn, hin, hZ⟩ := C
  intro H ls locs hl hP hD hS
  exact lv_iadd hx hb hd (k H ls locs hl hP hD hS)
theorem b_dup {va : Value} (C : OKB l w bz K cc nl own d mc ms) (hd : decode cc pc = .ok (.dup, 1)) (hc : va.category = 1) (k : BW l w K cells slots (pc + 1) lv (va :: va :: st) ws) : BW l w K cells slots pc lv (va :: st) ws := by
  obtain ⟨⟨p, e, R, s, m, args, below, meth, c⟩, nL, Q, A⟩ := K
  obtain ⟨⟨hx, hb, hml, hown, hts⟩, hK, hA, hlk, hR, hn, hin, hZ⟩ := C
  intro H ls locs hl hP hD hS
  exact lv_dup hx hb hd hc (k H ls locs hl hP hD hS)
theorem b_goto {off : Int} {tgt : Nat} (C : OKB l w bz K cc nl own d mc ms) (hd : decode cc pc = .ok (.goto off, 3)) (ht : (pc : Int) + off = (tgt : Int)) (k : BW l w K cells slots (tgt) lv (st) ws) : BW l w K cells slots pc lv (st) ws := by
  obtain ⟨⟨p, e, R, s, m, args, below, meth, c⟩, nL, Q, A⟩ := K
  obtain ⟨⟨hx, hb, hml, hown, hts⟩, hK, hA, hlk, hR, hn, hin, hZ⟩ := C
  intro H ls locs hl hP hD hS
  exact lv_goto hx hb hd ht (k H ls locs hl hP hD hS)
theorem b_icmp_ge {x y : Int32} {off : Int} {tgt : Nat} (C : OKB l w bz K cc nl own d mc ms) (hd : decode cc pc = .ok (.if_icmp .ge off, 3)) (ht : (pc : Int) + off = (tgt : Int)) (kt : (y ≤ x) → BW l w K cells slots tgt lv st ws) (kf : ¬ (y ≤ x) → BW l w K cells slots (pc + 3) lv st ws) : BW l w K cells slots pc lv (.int y :: .int x :: st) ws := by
  obtain ⟨⟨p, e, R, s, m, args, below, meth, c⟩, nL, Q, A⟩ := K
  obtain ⟨⟨hx, hb, hml, hown, hts⟩, hK, hA, hlk, hR, hn, hin, hZ⟩ := C
  intro H ls locs hl hP hD hS
  exact lv_icmp_ge hx hb hd ht (fun q => kt q H ls locs hl hP hD hS) (fun q => kf q H ls locs hl hP hD hS)
theorem b_obj {idx x : Nat} (C : OKB l w bz K cc nl own d mc ms) (h1 : Cond.methodLink own idx objectInit ∈ gt) (h2 : Cond.instanceMethod objectInit ∈ gt) (h3 : Cond.code objectInit ⟨#[0xb1]⟩ 1 none ∈ gt) (hd1 : 1 ≤ d) (hd : decode cc pc = .ok (.invokespecial idx, 3)) (hst : (st.map fun v => v.category).sum ≤ 8) (k : BW l w K cells slots (pc + 3) lv st ws) : BW l w K cells slots pc lv (.ref x :: st) ws := by
  obtain ⟨⟨p, e, R, s, m, args, below, meth, c⟩, nL, Q, A⟩ := K
  obtain ⟨⟨hx, hb, hml, hown, hts⟩, hK, hA, hlk, hR, hn, hin, hZ⟩ := C
  intro H ls locs hl hP hD hS
  have hlr : 2 * (F0 m pc ls (.ref x :: st)).monitorRoom + (st.map fun v => v.category).sum ≤ 8 := lv_room hst
  refine W.objInit hx hb hown (hts _ h1) (hts _ h2) (hts _ h3) rfl (by rw [hml]; exact hl.1) rfl hd (by subst hR; exact hd1) (by subst hR; show _ ≤ 64 * d; have := hlr; omega) ?_
  exact W.eq (g2 := F0 m (pc + 3) ls st) rfl (k H ls locs hl hP hD hS)
theorem set_last {α : Type} (w0 : List α) (x y : α) : (w0 ++ [x]).set w0.length y = w0 ++ [y] := by
  induction w0 with
  | nil => rfl
  | cons a w0 ih => show a :: ((w0 ++ [x]).set w0.length y) = a :: (w0 ++ [y]); rw [ih]
theorem get_last {α : Type} (w0 : List α) (x : α) : (w0 ++ [x])[w0.length]? = some x := by simp
theorem b_newi {n : Int32} {N : Nat} (C : OKB l w bz K cc nl own d mc ms) (harr : Cond.arrayClass .int ∈ gt) (hn0 : ¬ n < 0) (hN : n.toNatClampNeg = N) (hby : N ≤ 1000) (hc : cells + 1 ≤ mc) (hs : slots + N ≤ ms) (hd : decode cc pc = .ok (.newarray .int, 2)) (k : ∀ q, BW l w K (cells + 1) (slots + N) (pc + 2) lv (.ref q :: st) (ws ++ [(q, .inl (wI w, N, .inl (fun _ => 0)))])) : BW l w K cells slots pc lv (.int n :: st) ws := by
  obtain ⟨⟨p, e, R, s, m, args, below, meth, c⟩, nL, Q, A⟩ := K
  obtain ⟨⟨hx, hb, hml, hown, hts⟩, hK, hA, hlk, hR, hn, hin, hZ⟩ := C
  intro H ls locs hl hP hD hS
  refine va_newa (atype := .int) (a0 := (N, .inl (fun _ => 0))) (N' := N) hx hb (hts _ harr) rfl hK hP hD hS hA (fun cA => rfl) hn0 hN (by show N * 4 ≤ _; omega) (by subst hR; exact hc) (by subst hR; exact hs) hd (fun q cA H1 hK1 hP1 hD1 hS1 => ?_)
  have hcA : cA = wI w := by
    have h1 : s.vm.findClass ("[" ++ (FieldType.int).toString) = some (wI w) := (hK1.2 0 (wI w, .int) rfl).2
    have h2 : s.vm.findClass ("[" ++ (FieldType.int).toString) = some cA := (hK1.2 3 (cA, .int) rfl).2
    exact Option.some.inj (h2.symm.trans h1)
  subst hcA
  exact k q H1 ls locs hl hP1 hD1 hS1
theorem b_newc {n : Int32} {N : Nat} (C : OKB l w bz K cc nl own d mc ms) (harr : Cond.arrayClass .char ∈ gt) (hn0 : ¬ n < 0) (hN : n.toNatClampNeg = N) (hby : N ≤ 1000) (hc : cells + 1 ≤ mc) (hs : slots + N ≤ ms) (hd : decode cc pc = .ok (.newarray .char, 2)) (k : ∀ q, BW l w K (cells + 1) (slots + N) (pc + 2) lv (.ref q :: st) (ws ++ [(q, .inl (wC w, N, .inl (fun _ => 0)))])) : BW l w K cells slots pc lv (.int n :: st) ws := by
  obtain ⟨⟨p, e, R, s, m, args, below, meth, c⟩, nL, Q, A⟩ := K
  obtain ⟨⟨hx, hb, hml, hown, hts⟩, hK, hA, hlk, hR, hn, hin, hZ⟩ := C
  intro H ls locs hl hP hD hS
  refine va_newa (atype := .char) (a0 := (N, .inl (fun _ => 0))) (N' := N) hx hb (hts _ harr) rfl hK hP hD hS hA (fun cA => rfl) hn0 hN (by show N * 2 ≤ _; omega) (by subst hR; exact hc) (by subst hR; exact hs) hd (fun q cA H1 hK1 hP1 hD1 hS1 => ?_)
  have hcA : cA = wC w := by
    have h1 : s.vm.findClass ("[" ++ (FieldType.char).toString) = some (wC w) := (hK1.2 1 (wC w, .char) rfl).2
    have h2 : s.vm.findClass ("[" ++ (FieldType.char).toString) = some cA := (hK1.2 3 (cA, .char) rfl).2
    exact Option.some.inj (h2.symm.trans h1)
  subst hcA
  exact k q H1 ls locs hl hP1 hD1 hS1
def FPF (own : String) (idx ci j : Nat) : Prop := ∃ (C : String) (T : u_T) (Nf : Nat) (ty0 : Nat → FieldType) (ty : FieldType), vwCl[ci]? = some (C, T, Nf) ∧ j < Nf ∧ (∀ x ∈ u_ws C T Nf, x ∈ gt) ∧ Cond.fieldLink own idx C (T j).2.1 (T j).2.2.1 ∈ gt ∧ (∀ k, k < Nf → parseFieldDescriptor (T k).2.2.1 = some (ty0 k)) ∧ (∀ a, a < Nf → ∀ b, b < Nf → a ≠ b → (T a).2.1 ≠ (T b).2.1) ∧ (T j).2.2.2 = true ∧ (T j).1 = own ∧ C = own ∧ parseFieldDescriptor (T j).2.2.1 = some ty ∧ ∀ q : Nat, narrow ty (.ref q) = .ref q ∧ fits ty (.ref q) = true
theorem b_putr {idx ci j q a : Nat} {fs : List Value} {tl : va_W} (C : OKB l w bz K cc nl own d mc ms) (hI : own ≠ RL) (hF : FPF own idx ci j) (hw : ws = (a, .inr (ci, fs)) :: tl) (hlen : j < fs.length) (hd : decode cc pc = .ok (.putfield idx, 3)) (k : BW l w K cells slots (pc + 3) lv st ((a, .inr (ci, fs.set j (.ref q))) :: tl)) : BW l w K cells slots pc lv (.ref q :: .ref a :: st) ws := by
  obtain ⟨⟨p, e, R, s, m, args, below, meth, c⟩, nL, Q, A⟩ := K
  obtain ⟨⟨hx, hb, hml, hown, hts⟩, hK, hA, hlk, hR, hn, hin, hZ⟩ := C
  subst hw
  obtain ⟨C, T, Nf, ty0, ty, h1, h2, h3, h4, h5, h6, h7, h8, h9, h10, h11⟩ := hF
  intro H ls locs hl hP hD hS
  have hin2 : meth.name = "<init>" := hin.resolve_left hI
  exact va_putF (C := C) (T := T) (N := Nf) (ty := ty) hx hb hts h3 ty0 h5 h6 hown hK hP hD hS 0 rfl h1 j h2 (hts _ h4) (fun _ z => by rw [h8] at z; rw [h9]; exact z) h7 hin2 h8 h10 (h11 q).1 (h11 q).2 hlen hd (fun H1 locs1 hP1 hD1 hS1 => k H1 ls locs1 hl hP1 hD1 hS1)
theorem b_ias {p0 q N j : Nat} {i x : Int32} {f : Nat → Int32} (C : OKB l w bz K cc nl own d mc ms) (hp : ws[p0]? = some (q, .inl (wI w, N, .inl f))) (hix : ix i N j) (hd : decode cc pc = .ok (.iastore, 1)) (k : BW l w K cells slots (pc + 1) lv st (ws.set p0 (q, .inl (wI w, N, .inl (upd f j x))))) : BW l w K cells slots pc lv (.int x :: .int i :: .ref q :: st) ws := by
  obtain ⟨⟨p, e, R, s, m, args, below, meth, c⟩, nL, Q, A⟩ := K
  obtain ⟨⟨hx, hb, hml, hown, hts⟩, hK, hA, hlk, hR, hn, hin, hZ⟩ := C
  intro H ls locs hl hP hD hS
  refine va_iast hx hb hK hP hD hS p0 0 hp rfl hix.vp hd (fun H1 locs1 hP1 hD1 hS1 => ?_)
  rw [hix.2.1] at hP1 hD1
  exact k H1 ls locs1 hl hP1 hD1 hS1
theorem b_iasl {q N j : Nat} {i x : Int32} {f : Nat → Int32} {w0 : va_W} (C : OKB l w bz K cc nl own d mc ms) (hw : ws = w0 ++ [(q, .inl (wI w, N, .inl f))]) (hix : ix i N j) (hd : decode cc pc = .ok (.iastore, 1)) (k : BW l w K cells slots (pc + 1) lv st (w0 ++ [(q, .inl (wI w, N, .inl (upd f j x)))])) : BW l w K cells slots pc lv (.int x :: .int i :: .ref q :: st) ws := by
  subst hw
  exact b_ias C (get_last w0 _) hix hd (by rw [set_last]; exact k)
theorem b_casl {q N j : Nat} {i x : Int32} {f : Nat → Int32} {w0 : va_W} (C : OKB l w bz K cc nl own d mc ms) (hw : ws = w0 ++ [(q, .inl (wC w, N, .inl f))]) (hix : ix i N j) (hnar : vp_nar .char x = x) (hd : decode cc pc = .ok (.castore, 1)) (k : BW l w K cells slots (pc + 1) lv st (w0 ++ [(q, .inl (wC w, N, .inl (upd f j x)))])) : BW l w K cells slots pc lv (.int x :: .int i :: .ref q :: st) ws := by
  obtain ⟨⟨p, e, R, s, m, args, below, meth, c⟩, nL, Q, A⟩ := K
  obtain ⟨⟨hx, hb, hml, hown, hts⟩, hK, hA, hlk, hR, hn, hin, hZ⟩ := C
  subst hw
  intro H ls locs hl hP hD hS
  refine va_cast hx hb hK hP hD hS w0.length 1 (get_last w0 _) rfl hix.vp hd (fun H1 locs1 hP1 hD1 hS1 => ?_)
  rw [set_last, hix.2.1, hnar] at hP1 hD1
  exact k H1 ls locs1 hl hP1 hD1 hS1
theorem b_get {idx ci j a : Nat} {fs : List Value} {v : Value} {tl : va_W} (C : OKB l w bz K cc nl own d mc ms) (hF : FL own idx ci j) (hS1 : FS own idx ci j) (hw : ws = (a, .inr (ci, fs)) :: tl) (hv : fs[j]? = some v) (hd : decode cc pc = .ok (.getfield idx, 3)) (k : BW l w K cells slots (pc + 3) lv (v :: st) ws) : BW l w K cells slots pc lv (.ref a :: st) ws := by
  obtain ⟨⟨p, e, R, s, m, args, below, meth, c⟩, nL, Q, A⟩ := K
  obtain ⟨⟨hx, hb, hml, hown, hts⟩, hK, hA, hlk, hR, hn, hin, hZ⟩ := C
  obtain ⟨C, T, Nf, h1, h2, h3, h4⟩ := hF
  obtain ⟨C', T', Nf', h1', h5⟩ := hS1
  rw [h1] at h1'
  cases h1'
  intro H ls locs hl hP hD hS
  exact va_get (C := C) (T := T) (N := Nf) hx hb hts h3 hown hK hP 0 (by rw [hw]; rfl) h1 j h2 (hts _ h4) (fun _ h9 => by rw [h5] at h9; exact h9) hv hd (k H ls locs hl hP hD hS)
def NWC (own : String) (idx ci N : Nat) (fs : List Value) : Prop := ∃ (C : String) (T : u_T) (ty0 : Nat → FieldType), vwCl[ci]? = some (C, T, N) ∧ (∀ x ∈ u_ws C T N, x ∈ gt) ∧ (∀ k, k < N → parseFieldDescriptor (T k).2.2.1 = some (ty0 k)) ∧ Cond.classLink own idx C ∈ gt ∧ Cond.instantiable C N ∈ gt ∧ Cond.initialized C ∈ gt ∧ ∀ j, j < N → defaultValue (ty0 j) = vp_V fs j
theorem b_new {idx ci N : Nat} {fs : List Value} (C : OKB l w bz K cc nl own d mc ms) (hW : NWC own idx ci N fs) (hc : cells + 1 ≤ mc) (hs : slots + N ≤ ms) (hd : decode cc pc = .ok (.new idx, 3)) (k : ∀ q, BW l w K (cells + 1) (slots + N) (pc + 3) lv (.ref q :: st) (ws ++ [(q, .inr (ci, fs))])) : BW l w K cells slots pc lv st ws := by
  obtain ⟨⟨p, e, R, s, m, args, below, meth, c⟩, nL, Q, A⟩ := K
  obtain ⟨⟨hx, hb, hml, hown, hts⟩, hK, hA, hlk, hR, hn, hin, hZ⟩ := C
  obtain ⟨C, T, ty0, h1, h2, h3, h4, h5, h6, h7⟩ := hW
  intro H ls locs hl hP hD hS
  exact va_new (ci := ci) (fs := fs) (C := C) (T := T) (N := N) hx hb hts h2 ty0 h3 hown (hts _ h4) (hts _ h5) (hts _ h6) hK hP hD hS hA h1 h7 (by subst hR; exact hc) (by subst hR; exact hs) hd (fun q H1 hP1 hD1 hS1 => k q H1 ls locs hl hP1 hD1 hS1)
def MI (own : String) (idx : Nat) (y : MethodName) (bytes : ByteArray) (maxL : Nat) : Prop := Cond.methodLink own idx y ∈ gt ∧ Cond.instanceMethod y ∈ gt ∧ Cond.initialized y.cls ∈ gt ∧ Cond.code y bytes maxL none ∈ gt ∧ dOK y 0 ∧ maxL ≤ 40 ∧ y.name = "<init>"
theorem b_call {y : MethodName} {bytes : ByteArray} {bz' : Bool} {maxL idx d' mc' ms' q : Nat} {e0 : va_E} {F : (Nat → Nat) → va_W} {w0 : va_W} (C : OKB l w bz K cc nl own d mc ms) (hm : MI own idx y bytes maxL) (ct : CtB l w bz' y bytes maxL d' mc' ms' e0 F) (hw : ws = w0 ++ [(q, e0)]) (hbz : bz' = true → bz = true) (hd' : d' + 1 ≤ d) (hc : cells + mc' ≤ mc) (hs : slots + ms' ≤ ms) (hcat : (st.map fun v => v.category).sum ≤ 8) (hd : decode cc pc = .ok (.invokespecial idx, 3)) (k : ∀ adr : Nat → Nat, adr 0 = q → BW l w K (cells + mc') (slots + ms') (pc + 3) lv st (w0 ++ F adr)) : BW l w K cells slots pc lv (.ref q :: st) ws := by
  obtain ⟨⟨p, e, R, s, m, args, below, meth, c⟩, nL, Q, A⟩ := K
  obtain ⟨⟨hx, hb, hml, hown, hts⟩, hK, hA, hlk, hR, hn, hin, hZ⟩ := C
  subst hw
  obtain ⟨h1, h2, h4, h5, h6, h7, h8⟩ := hm
  intro H ls locs hl hP hD hS
  have hPc : va_P (wD w) vwCl [(q, e0)] H := fun k x hx => hP (w0.length + k) x (by rw [List.getElem?_append_right (Nat.le_add_right _ _), Nat.add_sub_cancel_left]; exact hx)
  have hDc : va_D A [(q, e0)] := ⟨fun i j x y hi hj _ => by have h1 := (List.getElem?_eq_some_iff.mp hi).1; have h2 := (List.getElem?_eq_some_iff.mp hj).1; simp only [List.length_singleton] at h1 h2; omega, fun k x hx => hD.2 (w0.length + k) x (by rw [List.getElem?_append_right (Nat.le_add_right _ _), Nat.add_sub_cancel_left]; exact hx)⟩
  have hAq : ∀ z, va_A [(q, e0)] H.size z → A z := by
    rintro z (⟨k, e, h⟩ | h)
    · exact hDc.2 k _ h
    · exact hA z (Nat.le_trans hS.1 h)
  have hcall : CallB R s args own idx y bytes maxL none (Cond.code y bytes maxL none :: gt) (rmv d' mc' ms') mc' ms' 0 ∧ y.name = "<init>" ∧ (Cond.instanceMethod y).before args s = true := by
    refine ⟨callB_of 0 hts (gt_goodIn h5) rfl rfl rfl (hts _ h4) (hts _ h1) h6 ⟨?_, ?_⟩, h8, hts _ h2⟩
    · subst hR; exact hd'
    · subst hR; show 8 + (maxL + 11) + 64 * d' ≤ 64 * d; omega
  refine va_callv (A1 := va_A [(q, e0)] H.size) (va_runI (As := []) (rest := st) ⟨hx, hb, hml, hown, hts⟩ (ct q H.size) hcall ⟨fun a U g mk z => by obtain ⟨q0, q1, qP, qK, qD, qZ⟩ := z; exact ⟨q0, q1, qP, va_K.moved (u := U) (U := U.calling g mk a) (Vm.Alike.refl U.vm) qK, qD, qZ.same rfl⟩, fun U hU hW => ⟨rfl, by rw [hU], by rw [hU]; exact hPc, va_K.moved hW.alike hK, hDc.weaken (fun _ _ _ _ => trivial), fun z => (hZ.warm hW) (hbz z)⟩⟩ rfl rfl hl.1 rfl (lv_room hcat) hd ⟨by subst hR; exact hc, by subst hR; exact hs⟩) hS (fun z _ h => hAq z h) hAq (fun adr t H1 locs1 ht hvm hw hB hz1 hk1 hS1 => ?_)
  obtain ⟨ha, hP1, hD1⟩ := hB
  rw [ht] at hP1
  have apart : ∀ (k : Nat) (x : Nat × va_E), w0[k]? = some x → x.1 < H.size ∧ ¬ va_A [(q, e0)] H.size x.1 := by
    intro k x hx
    have hk : k < w0.length := (List.getElem?_eq_some_iff.mp hx).1
    have hx' : (w0 ++ [(q, e0)])[k]? = some x := by rw [List.getElem?_append_left hk]; exact hx
    have hlt := (hP k x hx').lt
    refine ⟨hlt, ?_⟩
    rintro (⟨k2, e, h⟩ | h)
    · have hk2 : k2 < 1 := (List.getElem?_eq_some_iff.mp h).1
      have hk0 : k2 = 0 := by omega
      subst hk0
      have hxe : x.1 = q := (congrArg Prod.fst (Option.some.inj h)).symm
      have := hD.1 k w0.length x (q, e0) hx' (get_last w0 _) hxe
      omega
    · omega
  refine k adr ha H1 ls locs1 hl (va_P.app (fun k x hx => ?_) hP1) (va_D.app ⟨fun i j x y hi hj hxy => ?_, fun k x hx => ?_⟩ (hD1.weaken (fun k x _ h => hAq x.1 h)) (fun i j x y hi hj hxy => ?_)) hS1
  · have hk : k < w0.length := (List.getElem?_eq_some_iff.mp hx).1
    obtain ⟨g1, g2⟩ := apart k x hx
    exact (hP k x (by rw [List.getElem?_append_left hk]; exact hx)).kept (hk1 x.1 g1 g2)
  · exact hD.1 i j x y (by rw [List.getElem?_append_left (List.getElem?_eq_some_iff.mp hi).1]; exact hi) (by rw [List.getElem?_append_left (List.getElem?_eq_some_iff.mp hj).1]; exact hj) hxy
  · exact hD.2 k x (by rw [List.getElem?_append_left (List.getElem?_eq_some_iff.mp hx).1]; exact hx)
  · exact (apart i x hi).2 (by rw [hxy]; exact hD1.2 j y hj)
def MIN (y : MethodName) (bytes : ByteArray) (maxL : Nat) : Prop := Cond.instanceMethod y ∈ gt ∧ Cond.initialized y.cls ∈ gt ∧ Cond.code y bytes maxL none ∈ gt ∧ dOK y 0 ∧ maxL ≤ 40 ∧ y.name = "<init>"
theorem b_calN {y : MethodName} {bytes : ByteArray} {bz' : Bool} {host : String} {maxL idx d' mc' ms' q : Nat} {e0 : va_E} {F : (Nat → Nat) → va_W} {w0 : va_W} (C : OKB l w bz K cc nl own d mc ms) (hm : MIN y bytes maxL) (hnl : ∀ U : State, NI bz U → va_Nw (.methodLinkNest own idx y host) U) (ct : CtB l w bz' y bytes maxL d' mc' ms' e0 F) (hw : ws = w0 ++ [(q, e0)]) (hbz : bz' = true → bz = true) (hd' : d' + 1 ≤ d) (hc : cells + mc' ≤ mc) (hs : slots + ms' ≤ ms) (hcat : (st.map fun v => v.category).sum ≤ 8) (hd : decode cc pc = .ok (.invokespecial idx, 3)) (k : ∀ adr : Nat → Nat, adr 0 = q → BW l w K (cells + mc') (slots + ms') (pc + 3) lv st (w0 ++ F adr)) : BW l w K cells slots pc lv (.ref q :: st) ws := by
  obtain ⟨⟨p, e, R, s, m, args, below, meth, c⟩, nL, Q, A⟩ := K
  obtain ⟨⟨hx, hb, hml, hown, hts⟩, hK, hA, hlk, hR, hn, hin, hZ⟩ := C
  subst hw
  obtain ⟨h2, h4, h5, h6, h7, h8⟩ := hm
  intro H ls locs hl hP hD hS
  have hPc : va_P (wD w) vwCl [(q, e0)] H := fun k x hx => hP (w0.length + k) x (by rw [List.getElem?_append_right (Nat.le_add_right _ _), Nat.add_sub_cancel_left]; exact hx)
  have hDc : va_D A [(q, e0)] := ⟨fun i j x y hi hj _ => by have h1 := (List.getElem?_eq_some_iff.mp hi).1; have h2 := (List.getElem?_eq_some_iff.mp hj).1; simp only [List.length_singleton] at h1 h2; omega, fun k x hx => hD.2 (w0.length + k) x (by rw [List.getElem?_append_right (Nat.le_add_right _ _), Nat.add_sub_cancel_left]; exact hx)⟩
  have hAq : ∀ z, va_A [(q, e0)] H.size z → A z := by
    rintro z (⟨k, e, h⟩ | h)
    · exact hDc.2 k _ h
    · exact hA z (Nat.le_trans hS.1 h)
  have hcall : va_CN R s args own idx y host bytes maxL none (Cond.code y bytes maxL none :: gt) (rmv d' mc' ms') mc' ms' 0 ∧ y.name = "<init>" ∧ (Cond.instanceMethod y).before args s = true := by
    refine ⟨va_cnB 0 hts (gt_goodIn h5) rfl rfl rfl (hnl s hZ) (hts _ h4) h6 ⟨?_, ?_⟩, h8, hts _ h2⟩
    · subst hR; exact hd'
    · subst hR; show 8 + (maxL + 11) + 64 * d' ≤ 64 * d; omega
  refine va_callv (A1 := va_A [(q, e0)] H.size) (va_runIN (As := []) (rest := st) ⟨hx, hb, hml, hown, hts⟩ (ct q H.size) hcall ⟨fun a U g mk z => by obtain ⟨q0, q1, qP, qK, qD, qZ⟩ := z; exact ⟨q0, q1, qP, va_K.moved (u := U) (U := U.calling g mk a) (Vm.Alike.refl U.vm) qK, qD, qZ.same rfl⟩, fun U hU hW => ⟨rfl, by rw [hU], by rw [hU]; exact hPc, va_K.moved hW.alike hK, hDc.weaken (fun _ _ _ _ => trivial), fun z => (hZ.warm hW) (hbz z)⟩⟩ rfl rfl hl.1 rfl (lv_room hcat) hd ⟨by subst hR; exact hc, by subst hR; exact hs⟩) hS (fun z _ h => hAq z h) hAq (fun adr t H1 locs1 ht hvm hw hB hz1 hk1 hS1 => ?_)
  obtain ⟨ha, hP1, hD1⟩ := hB
  rw [ht] at hP1
  have apart : ∀ (k : Nat) (x : Nat × va_E), w0[k]? = some x → x.1 < H.size ∧ ¬ va_A [(q, e0)] H.size x.1 := by
    intro k x hx
    have hk : k < w0.length := (List.getElem?_eq_some_iff.mp hx).1
    have hx' : (w0 ++ [(q, e0)])[k]? = some x := by rw [List.getElem?_append_left hk]; exact hx
    have hlt := (hP k x hx').lt
    refine ⟨hlt, ?_⟩
    rintro (⟨k2, e, h⟩ | h)
    · have hk2 : k2 < 1 := (List.getElem?_eq_some_iff.mp h).1
      have hk0 : k2 = 0 := by omega
      subst hk0
      have hxe : x.1 = q := (congrArg Prod.fst (Option.some.inj h)).symm
      have := hD.1 k w0.length x (q, e0) hx' (get_last w0 _) hxe
      omega
    · omega
  refine k adr ha H1 ls locs1 hl (va_P.app (fun k x hx => ?_) hP1) (va_D.app ⟨fun i j x y hi hj hxy => ?_, fun k x hx => ?_⟩ (hD1.weaken (fun k x _ h => hAq x.1 h)) (fun i j x y hi hj hxy => ?_)) hS1
  · have hk : k < w0.length := (List.getElem?_eq_some_iff.mp hx).1
    obtain ⟨g1, g2⟩ := apart k x hx
    exact (hP k x (by rw [List.getElem?_append_left hk]; exact hx)).kept (hk1 x.1 g1 g2)
  · exact hD.1 i j x y (by rw [List.getElem?_append_left (List.getElem?_eq_some_iff.mp hi).1]; exact hi) (by rw [List.getElem?_append_left (List.getElem?_eq_some_iff.mp hj).1]; exact hj) hxy
  · exact hD.2 k x (by rw [List.getElem?_append_left (List.getElem?_eq_some_iff.mp hx).1]; exact hx)
  · exact (apart i x hi).2 (by rw [hxy]; exact hD1.2 j y hj)
theorem b_vret {h0 : Nat} {e0 : va_E} {F : (Nat → Nat) → va_W} (adr : Nat → Nat) (C : OKB l w bz K cc nl own d mc ms) (r : RB w K cells slots h0 e0 F) (hw : ws = F adr) (h0' : adr 0 = h0) (hd : decode cc pc = .ok (.return_, 1)) : BW l w K cells slots pc lv [] ws := by
  obtain ⟨⟨p, e, R, s, m, args, below, meth, c⟩, nL, Q, A⟩ := K
  obtain ⟨⟨hx, hb, hml, hown, hts⟩, hK, hA, hlk, hR, hn, hin, hZ⟩ := C
  obtain ⟨hr, hAe, hQ⟩ := r
  subst hQ
  subst hw
  intro H ls locs hl hP hD hS
  exact W.vret hx hb hr (fun t ht hW => ⟨⟨adr, rfl, trivial, h0', by rw [ht]; exact hP, hD⟩, hS.F ht⟩) hS.2.2 hd hlk
end BR
theorem oi_m : Cond.instanceMethod objectInit ∈ gt := (gt_in (w := Cond.instanceMethod objectInit) 59 (by decide +kernel) (by decide +kernel))
theorem oi_c : Cond.code objectInit ⟨#[0xb1]⟩ 1 none ∈ gt := (gt_in (w := Cond.code objectInit ⟨#[0xb1]⟩ 1 none) 60 rfl (by decide +kernel))
theorem oi_X0_3 : Cond.methodLink RX0 3 objectInit ∈ gt := (gt_in (w := Cond.methodLink RX0 3 objectInit) 125 (by decide +kernel) (by decide +kernel))
theorem oi_X1_3 : Cond.methodLink RX1 3 objectInit ∈ gt := (gt_in (w := Cond.methodLink RX1 3 objectInit) 66 (by decide +kernel) (by decide +kernel))
theorem oi_X2_3 : Cond.methodLink RX2 3 objectInit ∈ gt := (gt_in (w := Cond.methodLink RX2 3 objectInit) 140 (by decide +kernel) (by decide +kernel))
theorem oi_X3_3 : Cond.methodLink RX3 3 objectInit ∈ gt := (gt_in (w := Cond.methodLink RX3 3 objectInit) 106 (by decide +kernel) (by decide +kernel))
theorem oi_X4_3 : Cond.methodLink RX4 3 objectInit ∈ gt := (gt_in (w := Cond.methodLink RX4 3 objectInit) 58 (by decide +kernel) (by decide +kernel))
set_option maxRecDepth 100000 in
theorem cw_yX1_init : Cond.code yX1_init cX1_init 1 none ∈ gt := (gt_in (w := Cond.code yX1_init cX1_init 1 none) 65 rfl (by decide +kernel))
theorem dk_yX1_init : dOK yX1_init 0 := ⟨by decide, by decide, by decide +kernel⟩
theorem in_X1 : Cond.initialized RX1 ∈ gt := (gt_in (w := Cond.initialized RX1) 40 (by decide +kernel) (by decide +kernel))
theorem is_X1 : Cond.instantiable RX1 7 ∈ gt := (gt_in (w := Cond.instantiable RX1 7) 62 (by decide +kernel) (by decide +kernel))
theorem mj_X4_11 : MIN yX1_init cX1_init 1 := ⟨(gt_in (w := Cond.instanceMethod yX1_init) 64 (by decide +kernel) (by decide +kernel)), in_X1, cw_yX1_init, dk_yX1_init, by decide, rfl⟩
set_option maxRecDepth 100000 in
theorem cw_yX3_init : Cond.code yX3_init cX3_init 1 none ∈ gt := (gt_in (w := Cond.code yX3_init cX3_init 1 none) 105 rfl (by decide +kernel))
theorem dk_yX3_init : dOK yX3_init 0 := ⟨by decide, by decide, by decide +kernel⟩
theorem in_X3 : Cond.initialized RX3 ∈ gt := (gt_in (w := Cond.initialized RX3) 41 (by decide +kernel) (by decide +kernel))
theorem is_X3 : Cond.instantiable RX3 3 ∈ gt := (gt_in (w := Cond.instantiable RX3 3) 102 (by decide +kernel) (by decide +kernel))
theorem mj_X4_24 : MIN yX3_init cX3_init 1 := ⟨(gt_in (w := Cond.instanceMethod yX3_init) 104 (by decide +kernel) (by decide +kernel)), in_X3, cw_yX3_init, dk_yX3_init, by decide, rfl⟩
set_option maxRecDepth 100000 in
theorem cw_yX0_init : Cond.code yX0_init cX0_init 1 none ∈ gt := (gt_in (w := Cond.code yX0_init cX0_init 1 none) 124 rfl (by decide +kernel))
theorem dk_yX0_init : dOK yX0_init 0 := ⟨by decide, by decide, by decide +kernel⟩
theorem in_X0 : Cond.initialized RX0 ∈ gt := (gt_in (w := Cond.initialized RX0) 42 (by decide +kernel) (by decide +kernel))
theorem is_X0 : Cond.instantiable RX0 2 ∈ gt := (gt_in (w := Cond.instantiable RX0 2) 121 (by decide +kernel) (by decide +kernel))
theorem mj_X4_31 : MIN yX0_init cX0_init 1 := ⟨(gt_in (w := Cond.instanceMethod yX0_init) 123 (by decide +kernel) (by decide +kernel)), in_X0, cw_yX0_init, dk_yX0_init, by decide, rfl⟩
set_option maxRecDepth 100000 in
theorem cw_yX2_init : Cond.code yX2_init cX2_init 1 none ∈ gt := (gt_in (w := Cond.code yX2_init cX2_init 1 none) 139 rfl (by decide +kernel))
theorem dk_yX2_init : dOK yX2_init 0 := ⟨by decide, by decide, by decide +kernel⟩
theorem in_X2 : Cond.initialized RX2 ∈ gt := (gt_in (w := Cond.initialized RX2) 43 (by decide +kernel) (by decide +kernel))
theorem is_X2 : Cond.instantiable RX2 2 ∈ gt := (gt_in (w := Cond.instantiable RX2 2) 136 (by decide +kernel) (by decide +kernel))
theorem mj_X4_38 : MIN yX2_init cX2_init 1 := ⟨(gt_in (w := Cond.instanceMethod yX2_init) 138 (by decide +kernel) (by decide +kernel)), in_X2, cw_yX2_init, dk_yX2_init, by decide, rfl⟩
theorem oi_X5_7 : Cond.methodLink RX5 7 objectInit ∈ gt := (gt_in (w := Cond.methodLink RX5 7 objectInit) 654 (by decide +kernel) (by decide +kernel))
set_option maxRecDepth 100000 in
theorem cw_yX4_init : Cond.code yX4_init cX4_init 1 none ∈ gt := (gt_in (w := Cond.code yX4_init cX4_init 1 none) 57 rfl (by decide +kernel))
theorem dk_yX4_init : dOK yX4_init 0 := ⟨by decide, by decide, by decide +kernel⟩
theorem in_X4 : Cond.initialized RX4 ∈ gt := (gt_in (w := Cond.initialized RX4) 39 (by decide +kernel) (by decide +kernel))
theorem is_X4 : Cond.instantiable RX4 12 ∈ gt := (gt_in (w := Cond.instantiable RX4 12) 54 (by decide +kernel) (by decide +kernel))
theorem mi_L_9 : MI RL 9 yX4_init cX4_init 1 := ⟨(gt_in (w := Cond.methodLink RL 9 yX4_init) 55 (by decide +kernel) (by decide +kernel)), (gt_in (w := Cond.instanceMethod yX4_init) 56 (by decide +kernel) (by decide +kernel)), in_X4, cw_yX4_init, dk_yX4_init, by decide, rfl⟩
set_option maxRecDepth 100000 in
theorem cw_yX5_init : Cond.code yX5_init cX5_init 2 none ∈ gt := (gt_in (w := Cond.code yX5_init cX5_init 2 none) 653 rfl (by decide +kernel))
theorem dk_yX5_init : dOK yX5_init 0 := ⟨by decide, by decide, by decide +kernel⟩
theorem in_X5 : Cond.initialized RX5 ∈ gt := (gt_in (w := Cond.initialized RX5) 44 (by decide +kernel) (by decide +kernel))
theorem is_X5 : Cond.instantiable RX5 28 ∈ gt := (gt_in (w := Cond.instantiable RX5 28) 650 (by decide +kernel) (by decide +kernel))
theorem mi_L_12 : MI RL 12 yX5_init cX5_init 2 := ⟨(gt_in (w := Cond.methodLink RL 12 yX5_init) 651 (by decide +kernel) (by decide +kernel)), (gt_in (w := Cond.instanceMethod yX5_init) 652 (by decide +kernel) (by decide +kernel)), in_X5, cw_yX5_init, dk_yX5_init, by decide, rfl⟩
theorem nw_X4_9 : NWC RX4 9 1 7 [.null, .null, .null, .null, .int 0, .int 0, .int 0] := ⟨RX1, TX1, tyX1, rfl, inX1g, tyX1_ok, (gt_in (w := Cond.classLink RX4 9 RX1) 61 (by decide +kernel) (by decide +kernel)), is_X1, in_X1, fun j hj => by rcases (show j = 0 ∨ j = 1 ∨ j = 2 ∨ j = 3 ∨ j = 4 ∨ j = 5 ∨ j = 6 by omega) with rfl | rfl | rfl | rfl | rfl | rfl | rfl <;> rfl⟩
theorem nw_X4_22 : NWC RX4 22 3 3 [.null, .null, .int 0] := ⟨RX3, TX3, tyX3, rfl, inX3g, tyX3_ok, (gt_in (w := Cond.classLink RX4 22 RX3) 101 (by decide +kernel) (by decide +kernel)), is_X3, in_X3, fun j hj => by rcases (show j = 0 ∨ j = 1 ∨ j = 2 by omega) with rfl | rfl | rfl <;> rfl⟩
theorem nw_X4_29 : NWC RX4 29 0 2 [.int 0, .int 0] := ⟨RX0, TX0, tyX0, rfl, inX0g, tyX0_ok, (gt_in (w := Cond.classLink RX4 29 RX0) 120 (by decide +kernel) (by decide +kernel)), is_X0, in_X0, fun j hj => by rcases (show j = 0 ∨ j = 1 by omega) with rfl | rfl <;> rfl⟩
theorem nw_X4_36 : NWC RX4 36 2 2 [.null, .int 0] := ⟨RX2, TX2, tyX2, rfl, inX2g, tyX2_ok, (gt_in (w := Cond.classLink RX4 36 RX2) 135 (by decide +kernel) (by decide +kernel)), is_X2, in_X2, fun j hj => by rcases (show j = 0 ∨ j = 1 by omega) with rfl | rfl <;> rfl⟩
theorem nw_L_7 : NWC RL 7 4 12 [.null, .null, .null, .null, .null, .null, .null, .null, .null, .null, .int 0, .int 0] := ⟨RX4, TX4, tyX4, rfl, inX4g, tyX4_ok, (gt_in (w := Cond.classLink RL 7 RX4) 53 (by decide +kernel) (by decide +kernel)), is_X4, in_X4, fun j hj => by rcases (show j = 0 ∨ j = 1 ∨ j = 2 ∨ j = 3 ∨ j = 4 ∨ j = 5 ∨ j = 6 ∨ j = 7 ∨ j = 8 ∨ j = 9 ∨ j = 10 ∨ j = 11 by omega) with rfl | rfl | rfl | rfl | rfl | rfl | rfl | rfl | rfl | rfl | rfl | rfl <;> rfl⟩
theorem nw_L_10 : NWC RL 10 5 28 [.null, .null, .null, .null, .int 0, .null, .null, .int 0, .int 0, .int 0, .int 0, .int 0, .int 0, .null, .null, .int 0, .int 0, .int 0, .null, .null, .null, .null, .int 0, .null, .int 0, .null, .null, .int 0] := ⟨RX5, TX5, tyX5, rfl, inX5g, tyX5_ok, (gt_in (w := Cond.classLink RL 10 RX5) 649 (by decide +kernel) (by decide +kernel)), is_X5, in_X5, fun j hj => by rcases (show j = 0 ∨ j = 1 ∨ j = 2 ∨ j = 3 ∨ j = 4 ∨ j = 5 ∨ j = 6 ∨ j = 7 ∨ j = 8 ∨ j = 9 ∨ j = 10 ∨ j = 11 ∨ j = 12 ∨ j = 13 ∨ j = 14 ∨ j = 15 ∨ j = 16 ∨ j = 17 ∨ j = 18 ∨ j = 19 ∨ j = 20 ∨ j = 21 ∨ j = 22 ∨ j = 23 ∨ j = 24 ∨ j = 25 ∨ j = 26 ∨ j = 27 by omega) with rfl | rfl | rfl | rfl | rfl | rfl | rfl | rfl | rfl | rfl | rfl | rfl | rfl | rfl | rfl | rfl | rfl | rfl | rfl | rfl | rfl | rfl | rfl | rfl | rfl | rfl | rfl | rfl <;> rfl⟩
theorem ff_X1_9 : FPF RX1 9 1 0 := ⟨RX1, TX1, 7, tyX1, .array .int, rfl, by decide, inX1g, lk_X1_9, tyX1_ok, nmX1, rfl, rfl, rfl, by decide +kernel, fun q => ⟨rfl, rfl⟩⟩
theorem ff_X1_15 : FPF RX1 15 1 1 := ⟨RX1, TX1, 7, tyX1, .array .int, rfl, by decide, inX1g, lk_X1_15, tyX1_ok, nmX1, rfl, rfl, rfl, by decide +kernel, fun q => ⟨rfl, rfl⟩⟩
theorem ff_X1_18 : FPF RX1 18 1 2 := ⟨RX1, TX1, 7, tyX1, .array .int, rfl, by decide, inX1g, lk_X1_18, tyX1_ok, nmX1, rfl, rfl, rfl, by decide +kernel, fun q => ⟨rfl, rfl⟩⟩
theorem ff_X1_23 : FPF RX1 23 1 3 := ⟨RX1, TX1, 7, tyX1, .array (.array .int), rfl, by decide, inX1g, lk_X1_23, tyX1_ok, nmX1, rfl, rfl, rfl, by decide +kernel, fun q => ⟨rfl, rfl⟩⟩
theorem ff_X2_9 : FPF RX2 9 2 0 := ⟨RX2, TX2, 2, tyX2, .array .char, rfl, by decide, inX2g, lk_X2_9, tyX2_ok, nmX2, rfl, rfl, rfl, by decide +kernel, fun q => ⟨rfl, rfl⟩⟩
theorem ff_X3_9 : FPF RX3 9 3 0 := ⟨RX3, TX3, 3, tyX3, .array .int, rfl, by decide, inX3g, lk_X3_9, tyX3_ok, nmX3, rfl, rfl, rfl, by decide +kernel, fun q => ⟨rfl, rfl⟩⟩
theorem ff_X3_15 : FPF RX3 15 3 1 := ⟨RX3, TX3, 3, tyX3, .array .int, rfl, by decide, inX3g, lk_X3_15, tyX3_ok, nmX3, rfl, rfl, rfl, by decide +kernel, fun q => ⟨rfl, rfl⟩⟩
theorem ff_X4_12 : FPF RX4 12 4 0 := ⟨RX4, TX4, 12, tyX4, .object "AlwaysYesterdays$Household", rfl, by decide, inX4g, lk_X4_12, tyX4_ok, nmX4, rfl, rfl, rfl, by decide +kernel, fun q => ⟨rfl, rfl⟩⟩
theorem ff_X4_16 : FPF RX4 16 4 1 := ⟨RX4, TX4, 12, tyX4, .object "AlwaysYesterdays$Household", rfl, by decide, inX4g, lk_X4_16, tyX4_ok, nmX4, rfl, rfl, rfl, by decide +kernel, fun q => ⟨rfl, rfl⟩⟩
theorem ff_X4_19 : FPF RX4 19 4 2 := ⟨RX4, TX4, 12, tyX4, .object "AlwaysYesterdays$Household", rfl, by decide, inX4g, lk_X4_19, tyX4_ok, nmX4, rfl, rfl, rfl, by decide +kernel, fun q => ⟨rfl, rfl⟩⟩
theorem ff_X4_25 : FPF RX4 25 4 3 := ⟨RX4, TX4, 12, tyX4, .object "AlwaysYesterdays$Tally", rfl, by decide, inX4g, lk_X4_25, tyX4_ok, nmX4, rfl, rfl, rfl, by decide +kernel, fun q => ⟨rfl, rfl⟩⟩
theorem ff_X4_32 : FPF RX4 32 4 4 := ⟨RX4, TX4, 12, tyX4, .object "AlwaysYesterdays$Choice", rfl, by decide, inX4g, lk_X4_32, tyX4_ok, nmX4, rfl, rfl, rfl, by decide +kernel, fun q => ⟨rfl, rfl⟩⟩
theorem ff_X4_39 : FPF RX4 39 4 5 := ⟨RX4, TX4, 12, tyX4, .object "AlwaysYesterdays$Letters", rfl, by decide, inX4g, lk_X4_39, tyX4_ok, nmX4, rfl, rfl, rfl, by decide +kernel, fun q => ⟨rfl, rfl⟩⟩
theorem ff_X4_43 : FPF RX4 43 4 6 := ⟨RX4, TX4, 12, tyX4, .array .int, rfl, by decide, inX4g, lk_X4_43, tyX4_ok, nmX4, rfl, rfl, rfl, by decide +kernel, fun q => ⟨rfl, rfl⟩⟩
theorem ff_X4_47 : FPF RX4 47 4 7 := ⟨RX4, TX4, 12, tyX4, .array .int, rfl, by decide, inX4g, lk_X4_47, tyX4_ok, nmX4, rfl, rfl, rfl, by decide +kernel, fun q => ⟨rfl, rfl⟩⟩
theorem ff_X4_50 : FPF RX4 50 4 8 := ⟨RX4, TX4, 12, tyX4, .array .int, rfl, by decide, inX4g, lk_X4_50, tyX4_ok, nmX4, rfl, rfl, rfl, by decide +kernel, fun q => ⟨rfl, rfl⟩⟩
theorem ff_X4_53 : FPF RX4 53 4 9 := ⟨RX4, TX4, 12, tyX4, .array .int, rfl, by decide, inX4g, lk_X4_53, tyX4_ok, nmX4, rfl, rfl, rfl, by decide +kernel, fun q => ⟨rfl, rfl⟩⟩
theorem ff_X5_1 : FPF RX5 1 5 0 := ⟨RX5, TX5, 28, tyX5, .array .int, rfl, by decide, inX5g, lk_X5_1, tyX5_ok, nmX5, rfl, rfl, rfl, by decide +kernel, fun q => ⟨rfl, rfl⟩⟩
theorem ff_X5_13 : FPF RX5 13 5 1 := ⟨RX5, TX5, 28, tyX5, .array .int, rfl, by decide, inX5g, lk_X5_13, tyX5_ok, nmX5, rfl, rfl, rfl, by decide +kernel, fun q => ⟨rfl, rfl⟩⟩
theorem ff_X5_16 : FPF RX5 16 5 2 := ⟨RX5, TX5, 28, tyX5, .array .int, rfl, by decide, inX5g, lk_X5_16, tyX5_ok, nmX5, rfl, rfl, rfl, by decide +kernel, fun q => ⟨rfl, rfl⟩⟩
theorem ff_X5_19 : FPF RX5 19 5 3 := ⟨RX5, TX5, 28, tyX5, .array .int, rfl, by decide, inX5g, lk_X5_19, tyX5_ok, nmX5, rfl, rfl, rfl, by decide +kernel, fun q => ⟨rfl, rfl⟩⟩
theorem ff_X5_22 : FPF RX5 22 5 5 := ⟨RX5, TX5, 28, tyX5, .array .int, rfl, by decide, inX5g, lk_X5_22, tyX5_ok, nmX5, rfl, rfl, rfl, by decide +kernel, fun q => ⟨rfl, rfl⟩⟩
theorem ff_X5_25 : FPF RX5 25 5 6 := ⟨RX5, TX5, 28, tyX5, .array .int, rfl, by decide, inX5g, lk_X5_25, tyX5_ok, nmX5, rfl, rfl, rfl, by decide +kernel, fun q => ⟨rfl, rfl⟩⟩
theorem ff_X5_28 : FPF RX5 28 5 13 := ⟨RX5, TX5, 28, tyX5, .array .int, rfl, by decide, inX5g, lk_X5_28, tyX5_ok, nmX5, rfl, rfl, rfl, by decide +kernel, fun q => ⟨rfl, rfl⟩⟩
theorem ff_X5_31 : FPF RX5 31 5 14 := ⟨RX5, TX5, 28, tyX5, .array .int, rfl, by decide, inX5g, lk_X5_31, tyX5_ok, nmX5, rfl, rfl, rfl, by decide +kernel, fun q => ⟨rfl, rfl⟩⟩
theorem ff_X5_34 : FPF RX5 34 5 18 := ⟨RX5, TX5, 28, tyX5, .array .char, rfl, by decide, inX5g, lk_X5_34, tyX5_ok, nmX5, rfl, rfl, rfl, by decide +kernel, fun q => ⟨rfl, rfl⟩⟩
theorem ff_X5_38 : FPF RX5 38 5 19 := ⟨RX5, TX5, 28, tyX5, .array .char, rfl, by decide, inX5g, lk_X5_38, tyX5_ok, nmX5, rfl, rfl, rfl, by decide +kernel, fun q => ⟨rfl, rfl⟩⟩
theorem ff_X5_41 : FPF RX5 41 5 20 := ⟨RX5, TX5, 28, tyX5, .array .char, rfl, by decide, inX5g, lk_X5_41, tyX5_ok, nmX5, rfl, rfl, rfl, by decide +kernel, fun q => ⟨rfl, rfl⟩⟩
theorem ff_X5_44 : FPF RX5 44 5 21 := ⟨RX5, TX5, 28, tyX5, .array .char, rfl, by decide, inX5g, lk_X5_44, tyX5_ok, nmX5, rfl, rfl, rfl, by decide +kernel, fun q => ⟨rfl, rfl⟩⟩
theorem ff_X5_47 : FPF RX5 47 5 23 := ⟨RX5, TX5, 28, tyX5, .array .int, rfl, by decide, inX5g, lk_X5_47, tyX5_ok, nmX5, rfl, rfl, rfl, by decide +kernel, fun q => ⟨rfl, rfl⟩⟩
theorem ff_X5_50 : FPF RX5 50 5 25 := ⟨RX5, TX5, 28, tyX5, .array .int, rfl, by decide, inX5g, lk_X5_50, tyX5_ok, nmX5, rfl, rfl, rfl, by decide +kernel, fun q => ⟨rfl, rfl⟩⟩
theorem ff_X5_53 : FPF RX5 53 5 26 := ⟨RX5, TX5, 28, tyX5, .array .int, rfl, by decide, inX5g, lk_X5_53, tyX5_ok, nmX5, rfl, rfl, rfl, by decide +kernel, fun q => ⟨rfl, rfl⟩⟩
