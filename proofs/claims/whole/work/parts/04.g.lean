/-! THE WORLD OF NUMBERS: N cells; the k-th stands at ad k, has a shape that never changes, and holds the ints σ k. -/
def gt : List Cond := lw_tbl.filter goodWord
theorem gt_good {w : Cond} (h : w ∈ gt) : goodWord w = true := (List.mem_filter.mp h).2
theorem gt_tbl {w : Cond} (h : w ∈ gt) : w ∈ lw_tbl := (List.mem_filter.mp h).1
theorem gt_in {w : Cond} (i : Nat) (h : lw_tbl[i]? = some w) (hg : goodWord w = true) : w ∈ gt := List.mem_filter.mpr ⟨List.mem_of_getElem? h, hg⟩
/-- tables, array classes (int, char, int[]), how many cells, where they stand, statics: (MOST_OF_SETTING's row, THREES' row), (the texts, their bytes) -/
abbrev WD : Type := va_G × (ClassId × ClassId × ClassId) × Nat × (Nat → Nat) × (Nat × Nat) × ((Nat → Nat) × (Nat → Nat))
abbrev wD (w : WD) : va_G := w.1
abbrev wI (w : WD) : ClassId := w.2.1.1
abbrev wC (w : WD) : ClassId := w.2.1.2.1
abbrev wO (w : WD) : ClassId := w.2.1.2.2
abbrev wN (w : WD) : Nat := w.2.2.1
abbrev wA (w : WD) : Nat → Nat := w.2.2.2.1
abbrev aI (w : WD) (n : Nat) (g : Nat → Int32) : va_E := .inl (wI w, n, .inl g)
abbrev aC (w : WD) (n : Nat) (g : Nat → Int32) : va_E := .inl (wC w, n, .inl g)
abbrev rA (w : WD) (k : Nat) : Value := .ref (wA w k)
abbrev oH (w : WD) (b : Nat) (g : Nat → Int32) : va_E := .inr (1, [rA w (b + 1), rA w (b + 2), rA w (b + 3), rA w (b + 4), .int (g 4), .int (g 5), .int (g 6)])
abbrev aO (w : WD) (b : Nat) : va_E := .inl (wO w, 4, .inr (.inr (.inr (.inr (fun i => some (wA w (b + 5 + i)))))))
/-- a count that never passes 20 -/
def cl (x : Int32) : Int32 := if 0 ≤ x ∧ x ≤ 20 then x else 0
def shp (w : WD) : Nat → (Nat → Int32) → va_E
  | 0 => fun g => .inr (4, [rA w 1, rA w 10, rA w 19, rA w 28, rA w 31, rA w 32, rA w 34, rA w 35, rA w 36, rA w 37, .int (g 10), .int (g 11)])
  | 1 => oH w 1
  | 2 => aI w 5
  | 3 => aI w 7
  | 4 => aI w 6
  | 5 => fun _ => aO w 1
  | 6 => aI w 4
  | 7 => aI w 4
  | 8 => aI w 4
  | 9 => aI w 4
  | 10 => oH w 10
  | 11 => aI w 5
  | 12 => aI w 7
  | 13 => aI w 6
  | 14 => fun _ => aO w 10
  | 15 => aI w 4
  | 16 => aI w 4
  | 17 => aI w 4
  | 18 => aI w 4
  | 19 => oH w 19
  | 20 => aI w 5
  | 21 => aI w 7
  | 22 => aI w 6
  | 23 => fun _ => aO w 19
  | 24 => aI w 4
  | 25 => aI w 4
  | 26 => aI w 4
  | 27 => aI w 4
  | 28 => fun g => .inr (3, [rA w 29, rA w 30, .int (cl (g 2))])
  | 29 => aI w 6
  | 30 => aI w 20
  | 31 => fun g => .inr (0, [.int (g 0), .int (g 1)])
  | 32 => fun g => .inr (2, [rA w 33, .int (g 1)])
  | 33 => aC w 96
  | 34 => aI w 20
  | 35 => aI w 7
  | 36 => aI w 81
  | 37 => aI w 64
  | 38 => fun g => .inr (5, [rA w 39, rA w 40, rA w 41, rA w 42, .int (g 4), rA w 43, rA w 44, .int (g 7), .int (g 8), .int (g 9), .int (g 10), .int (g 11), .int (g 12), rA w 45, rA w 46, .int (g 15), .int (g 16), .int (g 17), rA w 47, rA w 48, rA w 49, rA w 50, .int (g 22), rA w 51, .int (g 24), rA w 52, rA w 53, .int (g 27)])
  | 39 => aI w 7
  | 40 => aI w 46
  | 41 => aI w 46
  | 42 => aI w 46
  | 43 => aI w 4
  | 44 => aI w 60
  | 45 => aI w 6
  | 46 => aI w 96
  | 47 => aC w 7
  | 48 => aC w 6
  | 49 => aC w 6
  | 50 => aC w 2
  | 51 => aI w 7
  | 52 => aI w 4
  | 53 => aI w 20
  | _ => aI w 46
/-- a household's place: here, kept, mind -/
def HB (b : Nat) : Prop := b = 1 ∨ b = 10 ∨ b = 19
theorem HB.o {w : WD} {b : Nat} (h : HB b) : shp w b = oH w b := by rcases h with rfl | rfl | rfl <;> rfl
theorem HB.s {w : WD} {b : Nat} (h : HB b) : shp w (b + 1) = aI w 5 := by rcases h with rfl | rfl | rfl <;> rfl
theorem HB.p {w : WD} {b : Nat} (h : HB b) : shp w (b + 2) = aI w 7 := by rcases h with rfl | rfl | rfl <;> rfl
theorem HB.t {w : WD} {b : Nat} (h : HB b) : shp w (b + 3) = aI w 6 := by rcases h with rfl | rfl | rfl <;> rfl
theorem HB.e {w : WD} {b : Nat} (h : HB b) : shp w (b + 4) = fun _ => aO w b := by rcases h with rfl | rfl | rfl <;> rfl
theorem HB.r {w : WD} {b : Nat} (h : HB b) {i : Nat} (hi : i < 4) : shp w (b + 5 + i) = aI w 4 := by
  rcases h with rfl | rfl | rfl <;> (match i, hi with | 0, _ => rfl | 1, _ => rfl | 2, _ => rfl | 3, _ => rfl)
theorem HB.n {b : Nat} (h : HB b) {N k : Nat} (hN : 54 ≤ N) (hk : k ≤ 8) : b + k < N := by rcases h with rfl | rfl | rfl <;> omega
theorem HB.n0 {b : Nat} (h : HB b) {N : Nat} (hN : 54 ≤ N) : b < N := by rcases h with rfl | rfl | rfl <;> omega
theorem HB.nr {b : Nat} (h : HB b) {N i : Nat} (hN : 54 ≤ N) (hi : i < 4) : b + 5 + i < N := by rcases h with rfl | rfl | rfl <;> omega
abbrev SG : Type := Nat → Nat → Int32
def pw (w : WD) (σ : SG) : va_W := (List.range (wN w)).map fun k => (wA w k, shp w k (σ k))
theorem pw_at {w : WD} {σ : SG} {k : Nat} (h : k < wN w) : (pw w σ)[k]? = some (wA w k, shp w k (σ k)) := by simp [pw, h]
theorem pw_a {w : WD} {σ : SG} {k : Nat} {e : va_E} (h : k < wN w) (he : shp w k (σ k) = e) : (pw w σ)[k]? = some (wA w k, e) := by rw [pw_at h, he]
theorem pw_len (w : WD) (σ : SG) : (pw w σ).length = wN w := by simp [pw]
theorem pw_get {w : WD} {σ : SG} {k : Nat} {q : Nat × va_E} (h : (pw w σ)[k]? = some q) : k < wN w ∧ q = (wA w k, shp w k (σ k)) := by
  have hk : k < wN w := by
    have := (List.getElem?_eq_some_iff.mp h).1
    rwa [pw_len] at this
  rw [pw_at hk] at h
  exact ⟨hk, (Option.some.inj h).symm⟩
def upc (σ : SG) (k : Nat) (g : Nat → Int32) : SG := fun j => if j = k then g else σ j
theorem pw_set {w : WD} {σ : SG} {k : Nat} {g : Nat → Int32} : (pw w σ).set k (wA w k, shp w k g) = pw w (upc σ k g) := by
  apply List.ext_getElem?
  intro i
  rw [List.getElem?_set, pw_len]
  by_cases h : k = i
  · subst h
    by_cases hk : k < wN w
    · rw [if_pos rfl, if_pos hk, pw_at hk]; simp [upc]
    · rw [if_pos rfl, if_neg hk]; simp [pw, hk]
  · rw [if_neg h]
    by_cases hi : i < wN w
    · rw [pw_at hi, pw_at hi]
      have h2 : ¬ i = k := fun q => h q.symm
      simp [upc, h2]
    · simp [pw, hi]
theorem pw_st {w : WD} {σ : SG} {k : Nat} {g : Nat → Int32} {e : va_E} (he : shp w k g = e) : (pw w σ).set k (wA w k, e) = pw w (upc σ k g) := by rw [← he]; exact pw_set
/-- one number of one cell -/
def up (σ : SG) (k j : Nat) (v : Int32) : SG := upc σ k (upd (σ k) j v)
theorem up_at (σ : SG) (k j : Nat) (v : Int32) (k' j' : Nat) : up σ k j v k' j' = if k' = k ∧ j' = j then v else σ k' j' := by
  unfold up upc upd
  by_cases h : k' = k
  · subst h; by_cases h2 : j' = j <;> simp [h2]
  · simp [h]
theorem up_same (σ : SG) (k j : Nat) (v : Int32) : up σ k j v k j = v := by simp [up_at]
theorem up_other {σ : SG} {k j : Nat} {v : Int32} {k' : Nat} (h : k' ≠ k) : up σ k j v k' = σ k' := by funext j'; simp [up_at, h]
theorem up_elem {σ : SG} {k j : Nat} {v : Int32} {j' : Nat} (h : j' ≠ j) : up σ k j v k j' = σ k j' := by simp [up_at, h]
theorem upc_same (σ : SG) (k : Nat) (g : Nat → Int32) : upc σ k g k = g := if_pos rfl
theorem upc_other {σ : SG} {k : Nat} {g : Nat → Int32} {k' : Nat} (h : k' ≠ k) : upc σ k g k' = σ k' := if_neg h
/-- the cells stand apart, and lie in A -/
def pj (w : WD) (A : Nat → Prop) : Prop := (∀ i j : Nat, i < wN w → j < wN w → wA w i = wA w j → i = j) ∧ ∀ k : Nat, k < wN w → A (wA w k)
theorem pj.D {w : WD} {A : Nat → Prop} (h : pj w A) {σ : SG} : va_D A (pw w σ) := by
  refine ⟨fun i j p q hi hj hpq => ?_, fun k q hk => ?_⟩
  · obtain ⟨h1, rfl⟩ := pw_get hi
    obtain ⟨h2, rfl⟩ := pw_get hj
    exact h.1 i j h1 h2 hpq
  · obtain ⟨h1, rfl⟩ := pw_get hk
    exact h.2 k h1
/-- which cells the method may change -/
def pA (w : WD) (sz : Nat) : Nat → Prop := fun q => (∃ k : Nat, k < wN w ∧ q = wA w k) ∨ sz ≤ q
theorem pA_eq (w : WD) (σ : SG) (sz : Nat) : va_A (pw w σ) sz = pA w sz := by
  funext q
  apply propext
  constructor
  · rintro (⟨k, e, h⟩ | h)
    · obtain ⟨h1, h2⟩ := pw_get h
      exact Or.inl ⟨k, h1, (congrArg Prod.fst h2)⟩
    · exact Or.inr h
  · rintro (⟨k, h1, rfl⟩ | h)
    · exact Or.inl ⟨k, _, pw_at h1⟩
    · exact Or.inr h
abbrev tyw (w : WD) : List (ClassId × FieldType) := [(wI w, .int), (wC w, .char), (wO w, .array .int)]
/-! what stands outside the world and never changes: two rows of ints, the eight texts, the nest's words -/
def mosF (j : Nat) : Int32 := [30, 9, 9, 9, 9, 5].getD j 0
def thrF (j : Nat) : Int32 := [1, 3, 9, 27].getD j 0
def txLen : List Nat := [0, 6, 4, 8, 2, 1, 6, 6]
def txByt : List (List Int32) := [[], [69, 57, 57, 57, 63, 59], [57, 57, 57, 59], [87, 87, 87, 87, 87, 87, 87, 59], [72, 59], [59], [101, 102, 99, 112, 104, 97], [111, 110, 109, 116, 98, 115]]
def txKey : List (Nat × String) := [(27, ""), (54, "E999?;"), (56, "999;"), (58, "WWWWWWW;"), (60, "H;"), (62, ";"), (64, "efcpha"), (69, "onmtbs")]
def nestM1 : Cond := .methodLinkNest RX1 42 yX4_within RX4
def nestM2 : Cond := .methodLinkNest RX1 46 yX4_isAge RX4
def nestF1 : Cond := .fieldLinkNest RX1 50 RX4 "MOST_OF_SETTING" "[I" RX4
def ST (w : WD) (A : Nat → Prop) (U : State) (H : Heap) : Prop :=
  (va_Z RX4 "MOST_OF_SETTING" "[I" (.ref w.2.2.2.2.1.1) A U H ∧ va_T .int w.2.2.2.2.1.1 6 (fun j => .int (mosF j)) A U H)
  ∧ (va_Z RX4 "THREES" "[I" (.ref w.2.2.2.2.1.2) A U H ∧ va_T .int w.2.2.2.2.1.2 4 (fun j => .int (thrF j)) A U H)
  ∧ (vk_S 8 txLen txByt w.2.2.2.2.2.1 w.2.2.2.2.2.2 A U H ∧ (∀ i : Nat, i < 8 → vk_R RX2 (txKey.getD i (0, "")).1 (txKey.getD i (0, "")).2 (w.2.2.2.2.2.1 i) U) ∧ va_Z "java/lang/String" "COMPACT_STRINGS" "Z" (.int 1) A U H ∧ va_Zq "jdk/internal/util/Preconditions" "SIOOBE_FORMATTER" "Ljava/util/function/BiFunction;" A U H)
  ∧ va_Nw nestM1 U ∧ va_Nw nestM2 U ∧ va_Nw nestF1 U
theorem ST.go {w : WD} {A B : Nat → Prop} {s U : State} {H : Heap} (h : ST w A s s.heap) (hW : s.WarmedH U.vm) (hq : ∀ a : Nat, a < s.heap.size → ¬ A a → H[a]? = s.heap[a]?) (hB : ∀ q, B q → A q) : ST w B U H := by
  obtain ⟨⟨a1, a2⟩, ⟨b1, b2⟩, ⟨c1, c2, c3, c4⟩, d1, d2, d3⟩ := h
  exact ⟨⟨((a1.kept hq).narrow hB).moved hW.alike, ((a2.kept hq).narrow hB).moved hW.alike⟩, ⟨((b1.kept hq).narrow hB).moved hW.alike, ((b2.kept hq).narrow hB).moved hW.alike⟩, ⟨((c1.kept hq).narrow hB).moved hW.alike, fun i hi => (c2 i hi).warm hW, ((c3.kept hq).narrow hB).moved hW.alike, ((c4.kept hq).narrow hB).moved hW.alike⟩, va_Nw.warmM hW d1, va_Nw.warmM hW d2, va_Nw.warmF hW d3⟩
theorem ST.same {w : WD} {A : Nat → Prop} {s U : State} {H : Heap} (h : ST w A s H) (hv : U.vm = s.vm) : ST w A U H := by
  have al : s.vm.Alike U.vm := by rw [hv]; exact Vm.Alike.refl s.vm
  obtain ⟨⟨a1, a2⟩, ⟨b1, b2⟩, ⟨c1, c2, c3, c4⟩, d1, d2, d3⟩ := h
  exact ⟨⟨a1.moved al, a2.moved al⟩, ⟨b1.moved al, b2.moved al⟩, ⟨c1.moved al, fun i hi => (c2 i hi).same hv, c3.moved al, c4.moved al⟩, va_Nw.same rfl hv.symm d1, va_Nw.same rfl hv.symm d2, va_Nw.same rfl hv.symm d3⟩
/-! ===== contracts ===== -/
abbrev rmv (d mc ms : Nat) : Room := { frames := d, cells := mc, slots := ms, locals := 64 * d }
def Pin (w : WD) (σ : SG) (sz : Nat) : State → Prop := fun U => U.heap.size = sz ∧ va_P (wD w) vwCl (pw w σ) U.heap ∧ va_K (wD w) vwCl (tyw w) U ∧ pj w (fun _ => True) ∧ ST w (pA w sz) U U.heap
def Pout (w : WD) : SG → State → Prop := fun σ t => va_P (wD w) vwCl (pw w σ) t.heap
theorem Pin.blind {w : WD} {σ : SG} {sz : Nat} {As : List Value} : FrameBlind (va_Pc As (Pin w σ sz)) := by
  intro a U g mk h
  obtain ⟨h0, h1, h2, h3, h4, h5⟩ := h
  exact ⟨h0, h1, h2, va_K.moved (u := U) (U := U.calling g mk a) (Vm.Alike.refl U.vm) h3, h4, ST.same h5 rfl⟩
/-- an answer that is an int (boolean, char) -/
def CtI (l : Launch) (w : WD) (y : MethodName) (cc : ByteArray) (maxL : Nat) (ret : Option FieldType) (d mc ms : Nat) (As : List Value) (σ : SG) (post : Int32 → SG → Prop) : Prop :=
  ∀ sz : Nat, Met l y (.code y cc maxL ret :: gt) (rmv d mc ms) (va_Pc As (Pin w σ sz)) (va_Qi post (Pout w) (pA w sz)) mc ms (pA w sz)
def CtV (l : Launch) (w : WD) (y : MethodName) (cc : ByteArray) (maxL : Nat) (d mc ms : Nat) (As : List Value) (σ : SG) (post : SG → Prop) : Prop :=
  ∀ sz : Nat, Met l y (.code y cc maxL none :: gt) (rmv d mc ms) (va_Pc As (Pin w σ sz)) (va_Qv post (Pout w) (pA w sz)) mc ms (pA w sz)
def CtL (l : Launch) (w : WD) (y : MethodName) (cc : ByteArray) (maxL : Nat) (d mc ms : Nat) (As : List Value) (σ : SG) (post : Int64 → SG → Prop) : Prop :=
  ∀ sz : Nat, Met l y (.code y cc maxL (some .long) :: gt) (rmv d mc ms) (va_Pc As (Pin w σ sz)) (va_Ql post (Pout w) (pA w sz)) mc ms (pA w sz)
def CtR (l : Launch) (w : WD) (y : MethodName) (cc : ByteArray) (maxL : Nat) (ret : Option FieldType) (d mc ms : Nat) (As : List Value) (σ : SG) (post : SG → Nat → Prop) : Prop :=
  ∀ sz : Nat, Met l y (.code y cc maxL ret :: gt) (rmv d mc ms) (va_Pc As (Pin w σ sz)) (va_Qr (fun _ : SG => True) (fun σ' a t => post σ' a ∧ Pout w σ' t) (pA w sz)) mc ms (pA w sz)
/-! ===== the judgement ===== -/
abbrev KT : Type := (Program × Env × Room × State × MethodId × Array Value × List Frame × Method × Code) × (Nat × Nat × Nat) × (State → Prop) × (Nat → Prop)
def G (l : Launch) (w : WD) : KT → Nat → List (Nat × Value) → List Value → SG → Prop
  | ((p, e, R, s, m, args, below, meth, c), (nL, cells, slots), Q, A), pc, lv, st, σ => ∀ (H : Heap) (ls : Array Slot) (locs : List Loc), lv_has ls nL lv → va_P (wD w) vwCl (pw w σ) H → va_S A s.heap H locs → W p l e R s m args below meth c H locs cells slots Q (F0 m pc ls st)
/-- what holds all along a method -/
def OK (l : Launch) (w : WD) : KT → ByteArray → Nat → String → Nat → Nat → Nat → Prop
  | ((p, _, R, s, m, args, _, meth, c), (nL, cells, slots), _, A), cc, nl, own, d, mc, ms => CallFix p m c cc nL s args gt own ∧ va_K (wD w) vwCl (tyw w) s ∧ pj w A ∧ (∀ q, s.heap.size ≤ q → A q) ∧ ST w A s s.heap ∧ meth.locks = false ∧ R = rmv d mc ms ∧ nL = nl ∧ cells ≤ mc ∧ slots ≤ ms
def RI (w : WD) : KT → FieldType → (Int32 → SG → Prop) → Prop
  | ((_, _, _, s, _, args, below, meth, _), (_, cells, slots), Q, A), ty, post => meth.sig.returnType = some ty ∧ Q = MQ below (va_Qi post (Pout w) A) args s cells slots A
def RV (w : WD) : KT → (SG → Prop) → Prop
  | ((_, _, _, s, _, args, below, meth, _), (_, cells, slots), Q, A), post => meth.sig.returnType = none ∧ Q = MQ below (va_Qv post (Pout w) A) args s cells slots A
def RJ (w : WD) : KT → (Int64 → SG → Prop) → Prop
  | ((_, _, _, s, _, args, below, meth, _), (_, cells, slots), Q, A), post => meth.sig.returnType = some .long ∧ Q = MQ below (va_Ql post (Pout w) A) args s cells slots A
