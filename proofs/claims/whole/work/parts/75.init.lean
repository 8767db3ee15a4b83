theorem arrV_cg (cI : ClassId) {N : Nat} {f g : Nat → Value} (h : ∀ j, j < N → f j = g j) : arrV cI N f = arrV cI N g := by
  unfold arrV
  congr 1
  congr 1
  funext j
  exact h j.val j.isLt
def rf4 (a b c d : Nat) : Nat → Option Nat := fun i => ([some a, some b, some c, some d] : List (Option Nat)).getD i none
theorem outer4 (c : ClassId) (n : Nat) : Jvm.Free.Multi.outerC c 4 n 4 = vp_cell c (4, .inr (.inr (.inr (.inr (rf4 (n + 1) (n + 2) (n + 3) (n + 4)))))) := by
  show ((((({ cls := c, slots := Array.replicate 4 .null, vm := .none } : Cell).setSlot 0 (.ref (n + 1 + 0))).setSlot 1 (.ref (n + 1 + 1))).setSlot 2 (.ref (n + 1 + 2))).setSlot 3 (.ref (n + 1 + 3))) = arrV c 4 (fun j => va_rf (rf4 (n + 1) (n + 2) (n + 3) (n + 4) j))
  rw [arrV_new, arrV_store, arrV_store, arrV_store, arrV_store]
  refine arrV_cg c (fun j hj => ?_)
  have z : j = 0 ∨ j = 1 ∨ j = 2 ∨ j = 3 := by omega
  rcases z with rfl | rfl | rfl | rfl <;> rfl
def mnE (w : WD) (n : Nat) (k : Nat) : va_E := if k = 0 then .inl (wO w, 4, .inr (.inr (.inr (.inr (rf4 (n + 1) (n + 2) (n + 3) (n + 4)))))) else .inl (wI w, 4, .inl (fun _ => 0))
def mnL (w : WD) (n : Nat) : va_W := (List.range 5).map fun k => (n + k, mnE w n k)
theorem mnL_at {w : WD} {n k : Nat} {x : Nat × va_E} (h : (mnL w n)[k]? = some x) : k < 5 ∧ x = (n + k, mnE w n k) := by
  unfold mnL at h
  have hk : k < 5 := by
    have := (List.getElem?_eq_some_iff.mp h).1
    simpa using this
  rw [List.getElem?_map, List.getElem?_range hk] at h
  exact ⟨hk, (Option.some.inj h).symm⟩
section BR
variable {l : Launch} {w : WD} {bz : Bool} {K : KB} {cc : ByteArray} {own : String} {nl d mc ms cells slots pc : Nat} {lv : List (Nat × Value)} {st : List Value} {ws : va_W}
theorem b_mna {idx : Nat} (C : OKB l w bz K cc nl own d mc ms) (h1 : Cond.classLink own idx ("[" ++ (FieldType.array .int).toString) ∈ gt) (hbz : bz = true) (h3 : Cond.arrayClass .int ∈ gt) (hc : cells + 5 ≤ mc) (hs : slots + 20 ≤ ms) (hd : decode cc pc = .ok (.multianewarray idx 2, 4)) (k : ∀ q, BW l w K (cells + 5) (slots + 20) (pc + 4) lv (.ref q :: st) (ws ++ mnL w q)) : BW l w K cells slots pc lv (.int 4 :: .int 4 :: st) ws := by
  obtain ⟨⟨p, e, R, s, m, args, below, meth, c⟩, nL, Q, A⟩ := K
  obtain ⟨⟨hx, hb, hml, hown, hts⟩, hK, hA, hlk, hR, hn, hin, hZ⟩ := C
  intro H ls locs hl hP hD hS T hT X
  have e4 : (4 : Int32).toNatClampNeg = 4 := by decide
  obtain ⟨vm₁, cA, comp, hW, hfA, hfC, hO, hI, X1, step⟩ := X.multianewarray2F hx hown (hts _ h1) (hZ hbz).2.2.2.2 (hts _ h3) (g := F0 m pc ls (.int 4 :: .int 4 :: st)) rfl (by rw [hb]; exact hd) (n := 4) (k := 4) (rest := st) rfl (by decide) (by decide) (by rw [e4]; decide) (by rw [e4]; decide) (by rw [e4]; decide) rfl rfl (by rw [e4]; subst hR; exact hc) (by rw [e4]; subst hR; exact hs)
  rw [e4] at X1 step
  have hcA : cA = wO w := by
    have h1 : s.vm.findClass ("[" ++ (FieldType.array .int).toString) = some (wO w) := (hK.2 2 (wO w, .array .int) rfl).2
    exact Option.some.inj (hfA.symm.trans h1)
  have hcI : comp = wI w := by
    have h1 : s.vm.findClass (FieldType.array .int).toString = some (wI w) := (hK.2 0 (wI w, .int) rfl).2
    exact Option.some.inj (hfC.symm.trans h1)
  subst hcA; subst hcI
  have hTh : (T.setVm vm₁).heap = H := hT
  obtain ⟨f1, f2, -, -⟩ := Jvm.Free.Multi.fill_facts (T.setVm vm₁) (wO w) (wI w) 4 4 (defaultValue .int) 4
  have fo := fun (a : Addr) (ha : a < (T.setVm vm₁).heap.size) => Jvm.Free.Multi.fill_old (T.setVm vm₁) (wO w) (wI w) 4 4 (defaultValue .int) (a := a) ha 4
  have fi := fun (j : Nat) (hj : j < 4) => Jvm.Free.Multi.fill_inner (T.setVm vm₁) (wO w) (wI w) 4 4 (defaultValue .int) 4 j hj
  rw [hTh] at f1 f2 fo fi
  generalize hFF : Jvm.Free.Multi.fill (T.setVm vm₁) (wO w) (wI w) 4 4 (defaultValue .int) 4 = FF at f1 f2 fo fi X1 step
  have hkept : ∀ (k : Nat) (x : Nat × va_E), ws[k]? = some x → FF.heap[x.1]? = H[x.1]? := fun k x hx => fo x.1 ((hP k x hx).lt)
  have hP1 : va_P (wD w) vwCl (ws ++ mnL w H.size) FF.heap := (hP.kept hkept).app (fun k x hx => by
    obtain ⟨hk, rfl⟩ := mnL_at hx
    by_cases z : k = 0
    · subst z
      show FF.heap[H.size]? = some _
      rw [f2, outer4]
    · have hm : mnE w H.size k = .inl (wI w, 4, .inl (fun _ => 0)) := if_neg z
      show va_at _ _ (H.size + k, mnE w H.size k) _
      rw [hm]
      show FF.heap[H.size + k]? = some (arrV (wI w) 4 (fun _ => .int 0))
      have h5 := fi (k - 1) (by omega)
      rw [show H.size + 1 + (k - 1) = H.size + k by omega] at h5
      rw [h5, ← arrV_new]
      rfl)
  have hD1 : va_D A (ws ++ mnL w H.size) := hD.app ⟨fun i j x y hi hj hxy => by
      obtain ⟨-, rfl⟩ := mnL_at hi
      obtain ⟨-, rfl⟩ := mnL_at hj
      have : H.size + i = H.size + j := hxy
      omega, fun k x hx => by
      obtain ⟨-, rfl⟩ := mnL_at hx
      exact hA _ (Nat.le_trans hS.1 (Nat.le_add_right _ _))⟩ (fun i j x y hi hj hxy => by
      obtain ⟨-, rfl⟩ := mnL_at hj
      have h6 := (hP i x hi).lt
      have : x.1 = H.size + j := hxy
      omega)
  have hS1 : va_S A s.heap FF.heap locs := ⟨Nat.le_trans hS.1 (by omega), fun q q1 q2 => (fo q (Nat.lt_of_lt_of_le q1 hS.1)).trans (hS.2.1 q q1 q2), hS.2.2⟩
  obtain ⟨t, a1, b1⟩ := k H.size FF.heap ls locs hl hP1 hD1 hS1 FF rfl X1
  refine ⟨t, step t ?_, b1⟩
  have hth : T.heap.size = H.size := by rw [hT]
  rw [hth]
  exact a1
end BR
theorem ac_int : Cond.arrayClass .int ∈ gt := (gt_in (w := Cond.arrayClass .int) 100 (by decide +kernel) (by decide +kernel))
theorem ac_char : Cond.arrayClass .char ∈ gt := (gt_in (w := Cond.arrayClass .char) 149 (by decide +kernel) (by decide +kernel))
theorem ck_X1_21 : Cond.classLink RX1 21 ("[" ++ (FieldType.array .int).toString) ∈ gt := (gt_in (w := Cond.classLink RX1 21 ("[" ++ (FieldType.array .int).toString)) 67 (by decide +kernel) (by decide +kernel))
