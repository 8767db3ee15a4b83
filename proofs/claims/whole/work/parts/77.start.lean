/-! ===== the start: statics, texts, tables ===== -/
abbrev fl0 : List Cond := flatC (Cond.and given_1 narrow_1)
def AT (s : State) (b : Nat) : Prop := (∀ x ∈ lw_tbl, x.before #[Value.ref b] s = true) ∧ ∀ x ∈ fl0, x.before #[Value.ref b] s = true
abbrev aN (s : State) : Nat → Prop := fun q => s.heap.size ≤ q
theorem AT.t {s : State} {b : Nat} (h : AT s b) {x : Cond} (i : Nat) (hi : lw_tbl[i]? = some x) : x.before #[Value.ref b] s = true := h.1 x (List.mem_of_getElem? hi)
theorem AT.g {s : State} {b : Nat} (h : AT s b) {x : Cond} (hi : x ∈ gt) : x.before #[Value.ref b] s = true := h.1 x (gt_tbl hi)
theorem AT.f {s : State} {b : Nat} (h : AT s b) {x : Cond} (hi : x ∈ fl0) : x.before #[Value.ref b] s = true := h.2 x hi
theorem aN_o {s : State} : ∀ a : Nat, a < s.heap.size → ¬ aN s a := fun _ h => Nat.not_le.mpr h
theorem st_mosf : ∀ j, j < 6 → Cond.eq (.elem (.static RX4 "MOST_OF_SETTING" "[I") (.int (Int32.ofNat j))) (.int (mosF j)) ∈ fl0 := by decide +kernel
theorem st_mos {s : State} {b : Nat} (h : AT s b) : ∃ t : Nat, va_Z RX4 "MOST_OF_SETTING" "[I" (.ref t) (aN s) s s.heap ∧ va_T .int t 6 (fun j => .int (mosF j)) (aN s) s s.heap := by
  have hel : ∀ j : Nat, j < 6 → (Term.elem (.static RX4 "MOST_OF_SETTING" "[I") (.int (Int32.ofNat j))).eval #[Value.ref b] s none [] s = some (.int (mosF j)) := fun j hj => va_eqt (h.f (st_mosf j hj))
  have hle : (Term.length (.static RX4 "MOST_OF_SETTING" "[I")).eval #[Value.ref b] s none [] s = some (.int (Int32.ofNat 6)) := va_eqt (h.f (by decide +kernel))
  obtain ⟨t, ht, hT⟩ := va_Tof (ty := .int) (A := aN s) (by decide) (h.f (by decide +kernel)) hle hel aN_o
  exact ⟨t, va_Zof (h.t 389 (by decide +kernel)) (h.t 39 (by decide +kernel)) ht aN_o, hT⟩
theorem st_thrf : ∀ j, j < 4 → Cond.eq (.elem (.static RX4 "THREES" "[I") (.int (Int32.ofNat j))) (.int (thrF j)) ∈ fl0 := by decide +kernel
theorem st_thr {s : State} {b : Nat} (h : AT s b) : ∃ t : Nat, va_Z RX4 "THREES" "[I" (.ref t) (aN s) s s.heap ∧ va_T .int t 4 (fun j => .int (thrF j)) (aN s) s s.heap := by
  have hel : ∀ j : Nat, j < 4 → (Term.elem (.static RX4 "THREES" "[I") (.int (Int32.ofNat j))).eval #[Value.ref b] s none [] s = some (.int (thrF j)) := fun j hj => va_eqt (h.f (st_thrf j hj))
  have hle : (Term.length (.static RX4 "THREES" "[I")).eval #[Value.ref b] s none [] s = some (.int (Int32.ofNat 4)) := va_eqt (h.f (by decide +kernel))
  obtain ⟨t, ht, hT⟩ := va_Tof (ty := .int) (A := aN s) (by decide) (h.f (by decide +kernel)) hle hel aN_o
  exact ⟨t, va_Zof (h.t 590 (by decide +kernel)) (h.t 39 (by decide +kernel)) ht aN_o, hT⟩
abbrev tm0 (i : Nat) : Term := .string RX2 (txKey.getD i (0, "")).1
theorem st_x1 : ∀ i, i < 8 → Cond.exactly (tm0 i) "java/lang/String" ∈ fl0 := by decide +kernel
theorem st_x2 : ∀ i, i < 8 → Cond.eq (.field (tm0 i) "java/lang/String" "coder" "B") (.int 0) ∈ fl0 := by decide +kernel
theorem st_x3 : ∀ i, i < 8 → Cond.arrayOf (.field (tm0 i) "java/lang/String" "value" "[B") .byte ∈ fl0 := by decide +kernel
theorem st_x4 : ∀ i, i < 8 → Cond.eq (.length (.field (tm0 i) "java/lang/String" "value" "[B")) (.int (Int32.ofNat (txLen.getD i 0))) ∈ fl0 := by decide +kernel
theorem st_x5 : ∀ i, i < 8 → ∀ j, j < txLen.getD i 0 → Cond.eq (.elem (.field (tm0 i) "java/lang/String" "value" "[B") (.int (Int32.ofNat j))) (.int ((txByt.getD i []).getD j 0)) ∈ fl0 := by decide +kernel
theorem st_x6 : ∀ i, i < 8 → ∀ j, j < 8 → i ≠ j → (Cond.not (Cond.eq (tm0 i) (tm0 j)) ∈ fl0 ∨ Cond.not (Cond.eq (tm0 j) (tm0 i)) ∈ fl0) := by decide +kernel
theorem st_x7 : ∀ i, i < 8 → Cond.stringRef RX2 (txKey.getD i (0, "")).1 (txKey.getD i (0, "")).2 ∈ lw_tbl := by decide +kernel
theorem st_x8 : ∀ i, i < 8 → txLen.getD i 0 < 2 ^ 31 := by decide +kernel
theorem st_tx {s : State} {b : Nat} (h : AT s b) : ∃ adK adV : Nat → Nat, vk_S 8 txLen txByt adK adV (aN s) s s.heap ∧ ∀ i : Nat, i < 8 → vk_R RX2 (txKey.getD i (0, "")).1 (txKey.getD i (0, "")).2 (adK i) s := by
  obtain ⟨k, v, h1, h2⟩ := vk_Sof (N := 8) (tm := tm0) (len := txLen) (byt := txByt) (A := aN s) (args := #[Value.ref b]) (s := s) st_x8 (fun i hi => h.f (st_x1 i hi)) (fun i hi => h.f (st_x2 i hi)) (fun i hi => h.f (st_x3 i hi)) (fun i hi => h.f (st_x4 i hi)) (fun i hi j hj => h.f (st_x5 i hi j hj)) (fun i j hi hj hn => (st_x6 i hi j hj hn).elim (fun q => Or.inl (h.f q)) (fun q => Or.inr (h.f q))) aN_o
  exact ⟨k, v, h1, fun i hi => vk_R.of (A := #[Value.ref b]) (h.1 _ (st_x7 i hi)) (h2 i hi)⟩
theorem st_start {s : State} {b : Nat} (h : AT s b) : ∃ stt : (Nat × Nat) × ((Nat → Nat) × (Nat → Nat)), ∀ w : WD, w.2.2.2.2 = stt → ST w (aN s) s s.heap := by
  obtain ⟨t1, z1, T1⟩ := st_mos h
  obtain ⟨t2, z2, T2⟩ := st_thr h
  obtain ⟨k, v, S1, R1⟩ := st_tx h
  have c1 : va_Z "java/lang/String" "COMPACT_STRINGS" "Z" (.int 1) (aN s) s s.heap := va_Zof (h.t 223 (by decide +kernel)) (h.t 45 (by decide +kernel)) (va_eqi (h.f (by decide +kernel))) aN_o
  have c2 : va_Zq "jdk/internal/util/Preconditions" "SIOOBE_FORMATTER" "Ljava/util/function/BiFunction;" (aN s) s s.heap := va_Zqof (h.t 251 (by decide +kernel)) (h.t 47 (by decide +kernel)) (h.f (by decide +kernel)) aN_o
  have n1 : va_Nw nestM1 s := va_Nw.of (A := #[Value.ref b]) rfl (h.t 376 (by decide +kernel))
  have n2 : va_Nw nestM2 s := va_Nw.of (A := #[Value.ref b]) rfl (h.t 381 (by decide +kernel))
  have n3 : va_Nw nestF1 s := va_Nw.of (A := #[Value.ref b]) rfl (h.t 388 (by decide +kernel))
  refine ⟨((t1, t2), (k, v)), fun w hw => ?_⟩
  obtain ⟨d1, d2, d3, d4, d5⟩ := w
  have e : d5 = ((t1, t2), (k, v)) := hw
  subst e
  exact ⟨⟨z1, T1⟩, ⟨z2, T2⟩, ⟨S1, R1, c1, c2⟩, n1, n2, n3⟩
theorem ao_rf {A : Array Value} {U : State} (h : (Cond.arrayOver (.array .int)).before A U = true) : (Cond.arrayOver (.array .int)).before #[] U = true := h
theorem st_NI {s : State} {b : Nat} (h : AT s b) : NI true s := fun _ => ⟨va_Nw.of (A := #[Value.ref b]) rfl (h.t 63 (by decide +kernel)), va_Nw.of (A := #[Value.ref b]) rfl (h.t 103 (by decide +kernel)), va_Nw.of (A := #[Value.ref b]) rfl (h.t 122 (by decide +kernel)), va_Nw.of (A := #[Value.ref b]) rfl (h.t 137 (by decide +kernel)), ao_rf (h.t 68 (by decide +kernel))⟩
theorem st_K {s : State} {b : Nat} (h : AT s b) : ∃ (D : va_G) (cI cC cO : ClassId), ∀ w : WD, wD w = D → wI w = cI → wC w = cC → wO w = cO → va_K (wD w) vwCl (tyw w) s := by
  obtain ⟨c0, iS0, hK0⟩ := u_known (C := RX0) (T := TX0) (N := 2) (n := 2) (fun x hx => h.g hx) inX0g (h.g is_X0)
  obtain ⟨c1, iS1, hK1⟩ := u_known (C := RX1) (T := TX1) (N := 7) (n := 7) (fun x hx => h.g hx) inX1g (h.g is_X1)
  obtain ⟨c2, iS2, hK2⟩ := u_known (C := RX2) (T := TX2) (N := 2) (n := 2) (fun x hx => h.g hx) inX2g (h.g is_X2)
  obtain ⟨c3, iS3, hK3⟩ := u_known (C := RX3) (T := TX3) (N := 3) (n := 3) (fun x hx => h.g hx) inX3g (h.g is_X3)
  obtain ⟨c4, iS4, hK4⟩ := u_known (C := RX4) (T := TX4) (N := 12) (n := 12) (fun x hx => h.g hx) inX4g (h.g is_X4)
  obtain ⟨c5, iS5, hK5⟩ := u_known (C := RX5) (T := TX5) (N := 28) (n := 28) (fun x hx => h.g hx) inX5g (h.g is_X5)
  obtain ⟨cI, kI, pI, i1, i2, i3⟩ := Cond.arrayClass_spec (h.t (x := Cond.arrayClass .int) 100 (by decide +kernel))
  obtain ⟨cC, kC, pC, j1, j2, j3⟩ := Cond.arrayClass_spec (h.t (x := Cond.arrayClass .char) 149 (by decide +kernel))
  obtain ⟨pO, cO, kO, o1, o2, o3, o4, o5⟩ := arrayOverA_spec (t := .int) (h.t (x := Cond.arrayOver (.array .int)) 68 (by decide +kernel))
  refine ⟨(fun k => if k = 0 then c0 else if k = 1 then c1 else if k = 2 then c2 else if k = 3 then c3 else if k = 4 then c4 else c5, fun k => if k = 0 then iS0 else if k = 1 then iS1 else if k = 2 then iS2 else if k = 3 then iS3 else if k = 4 then iS4 else iS5), cI, cC, cO, fun w e1 e2 e3 e4 => ?_⟩
  rw [e1]
  refine ⟨fun k q hq => ?_, fun k q hq => ?_⟩
  · match k, hq with
    | 0, hq => cases hq; exact hK0
    | 1, hq => cases hq; exact hK1
    | 2, hq => cases hq; exact hK2
    | 3, hq => cases hq; exact hK3
    | 4, hq => cases hq; exact hK4
    | 5, hq => cases hq; exact hK5
    | k + 6, hq => simp [vwCl] at hq
  · match k, hq with
    | 0, hq => cases hq; show ArrOfT s (wI w) .int ∧ va_RA s (wI w) .int; rw [e2]; exact ⟨fun n z => ⟨fun k h => (by cases h), kI, i2, pI, i3⟩, i1⟩
    | 1, hq => cases hq; show ArrOfT s (wC w) .char ∧ va_RA s (wC w) .char; rw [e3]; exact ⟨fun n z => ⟨fun k h => (by cases h), kC, j2, pC, j3⟩, j1⟩
    | 2, hq => cases hq; show ArrOfT s (wO w) (.array .int) ∧ va_RA s (wO w) (.array .int); rw [e4]; exact ⟨fun n z => ⟨fun k h => (by cases h), kO, o3, pO, o4⟩, o5⟩
    | k + 3, hq => simp [tyw] at hq
