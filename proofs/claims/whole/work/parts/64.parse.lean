/-! ===== a HOUSE told in letters ===== -/
abbrev dgt (x : Nat) : Prop := 48 ≤ x ∧ x ≤ 57
/-- which text must stand behind a STATEMENT's first letter -/
def fB (s : Nat) : Nat := if s = 101 then 1 else if s = 115 ∨ s = 98 ∨ s = 99 then 2 else if s = 119 then 3 else if s = 104 then 4 else if s = 100 then 5 else 0
theorem fB_6 (s : Nat) : fB s < 6 := by unfold fB; repeat' split
                                        all_goals omega
def gOb (m s : Nat) : Bool := if m = 69 then (txF 6 s).isSome else if m = 72 then (txF 7 s).isSome else if m = 87 then decide (s = 111 ∨ s = 120) else if m = 57 ∨ m = 63 then decide (dgt s) else decide (s = m)
def stepF (f t s : Nat) : Option (Nat × Nat) :=
  if txL f ≤ t then (if txL (fB s) = 0 then none else some (fB s, 0))
  else if txL f ≤ (if txN f t = 63 ∧ ¬ dgt s then t + 1 else t) then none
  else if gOb (txN f (if txN f t = 63 ∧ ¬ dgt s then t + 1 else t)) s = true then some (f, (if txN f t = 63 ∧ ¬ dgt s then t + 1 else t) + 1) else none
def sA (c : Nat → Nat) : Nat → Option (Nat × Nat)
  | 0 => some (0, 0)
  | k + 1 => match sA c k with
    | none => none
    | some q => stepF q.1 q.2 (c k)
theorem sA_s {c : Nat → Nat} {k f t : Nat} (h : sA c k = some (f, t)) : sA c (k + 1) = stepF f t (c k) := by rw [sA, h]
theorem sA_no {c : Nat → Nat} {k : Nat} (h : sA c k = none) : ∀ j, k ≤ j → sA c j = none := by
  intro j
  induction j with
  | zero => intro hj; rw [← Nat.le_zero.mp hj]; exact h
  | succ j ih =>
    intro hj
    by_cases z : k = j + 1
    · rw [← z]; exact h
    · rw [sA, ih (by omega)]
def Bnd (o : Option (Nat × Nat)) : Prop := ∃ f t, o = some (f, t) ∧ txL f ≤ t
theorem Bnd_0 (c : Nat → Nat) : Bnd (sA c 0) := ⟨0, 0, rfl, by decide⟩
def Wrong (c : Nat → Nat) (nl p : Nat) : Prop := (p < nl ∧ (∃ q, sA c p = some q) ∧ sA c (p + 1) = none) ∨ (p = nl ∧ (∃ q, sA c nl = some q) ∧ (nl = 0 ∨ ¬ Bnd (sA c nl)))
def Right (c : Nat → Nat) (nl : Nat) : Prop := 0 < nl ∧ Bnd (sA c nl)
theorem Wrong.le {c : Nat → Nat} {nl p : Nat} (h : Wrong c nl p) : p ≤ nl := by
  rcases h with ⟨h, -⟩ | ⟨h, -⟩
  · exact Nat.le_of_lt h
  · exact Nat.le_of_eq h
theorem Wrong.sm {c : Nat → Nat} {nl p : Nat} (h : Wrong c nl p) : ∃ q, sA c p = some q := by
  rcases h with ⟨-, h, -⟩ | ⟨e, h, -⟩
  · exact h
  · rw [e]; exact h
theorem Wrong.nx {c : Nat → Nat} {nl p j : Nat} (h : Wrong c nl p) (hj : p < j) (hl : j ≤ nl) : sA c j = none := by
  rcases h with ⟨-, -, h⟩ | ⟨e, -⟩
  · exact sA_no h j (by omega)
  · omega
theorem Wrong.uq {c : Nat → Nat} {nl p q : Nat} (h : Wrong c nl p) (h' : Wrong c nl q) : p = q := by
  rcases Nat.lt_trichotomy p q with z | z | z
  · obtain ⟨y, hy⟩ := h'.sm
    rw [h.nx z h'.le] at hy; cases hy
  · exact z
  · obtain ⟨y, hy⟩ := h.sm
    rw [h'.nx z h.le] at hy; cases hy
theorem Right.no {c : Nat → Nat} {nl p : Nat} (h : Right c nl) (h' : Wrong c nl p) : False := by
  obtain ⟨h0, f, t, h1, h2⟩ := h
  rcases h' with ⟨a, -, b⟩ | ⟨a, -, b⟩
  · rw [sA_no b nl (by omega)] at h1; cases h1
  · rcases b with b | b
    · omega
    · exact b ⟨f, t, h1, h2⟩
/-! steps -/
theorem stb {f t s : Nat} (h : txL f ≤ t) : stepF f t s = if txL (fB s) = 0 then none else some (fB s, 0) := if_pos h
theorem stp {f t s : Nat} (h : t < txL f) (h2 : ¬ (txN f t = 63 ∧ ¬ dgt s)) : stepF f t s = if gOb (txN f t) s = true then some (f, t + 1) else none := by
  unfold stepF
  rw [if_neg (by omega), if_neg h2, if_neg (by omega)]
theorem stq {f t s : Nat} (h : t + 1 < txL f) (h2 : txN f t = 63 ∧ ¬ dgt s) : stepF f t s = if gOb (txN f (t + 1)) s = true then some (f, t + 1 + 1) else none := by
  unfold stepF
  rw [if_neg (by omega), if_pos h2, if_neg (by omega)]
theorem st9 {f t s : Nat} (h : t < txL f) (h2 : txN f t = 57) : stepF f t s = if dgt s then some (f, t + 1) else none := by
  rw [stp h (fun z => by omega), h2]
  by_cases z : dgt s
  · rw [if_pos z, if_pos (show gOb 57 s = true from decide_eq_true z)]
  · rw [if_neg z, if_neg (show ¬ gOb 57 s = true from fun y => z (of_decide_eq_true y))]
theorem st59 {f t s : Nat} (h : t < txL f) (h2 : txN f t = 59) : stepF f t s = if s = 59 then some (f, t + 1) else none := by
  rw [stp h (fun z => by omega), h2]
  by_cases z : s = 59
  · rw [if_pos z, if_pos (show gOb 59 s = true from decide_eq_true z)]
  · rw [if_neg z, if_neg (show ¬ gOb 59 s = true from fun y => z (of_decide_eq_true y))]
theorem st87 {f t s : Nat} (h : t < txL f) (h2 : txN f t = 87) : stepF f t s = if s = 111 ∨ s = 120 then some (f, t + 1) else none := by
  rw [stp h (fun z => by omega), h2]
  by_cases z : s = 111 ∨ s = 120
  · rw [if_pos z, if_pos (show gOb 87 s = true from decide_eq_true z)]
  · rw [if_neg z, if_neg (show ¬ gOb 87 s = true from fun y => z (of_decide_eq_true y))]
theorem st69 {s : Nat} : stepF 1 0 s = if (txF 6 s).isSome = true then some (1, 1) else none := stp (by decide) (fun z => absurd z.1 (by decide))
theorem st72 {s : Nat} : stepF 4 0 s = if (txF 7 s).isSome = true then some (4, 1) else none := stp (by decide) (fun z => absurd z.1 (by decide))
theorem st63 {s : Nat} : stepF 1 4 s = if dgt s then some (1, 5) else if s = 59 then some (1, 6) else none := by
  by_cases z : dgt s
  · rw [stp (by decide) (fun y => y.2 z), if_pos z, if_pos (show gOb (txN 1 4) s = true from decide_eq_true z)]
  · rw [stq (by decide) ⟨by decide, z⟩, if_neg z]
    by_cases y : s = 59
    · rw [if_pos y, if_pos (show gOb (txN 1 5) s = true from decide_eq_true y)]
    · rw [if_neg y, if_neg (show ¬ gOb (txN 1 5) s = true from fun x => y (of_decide_eq_true x))]
/-- so far it is well -/
def RS (c : Nat → Nat) (nl q f t : Nat) : Prop := sA c q = some (f, t) ∧ q ≤ nl
theorem RS.ok {c : Nat → Nat} {nl q f t f' t' : Nat} (h : RS c nl q f t) (hq : q < nl) (hs : stepF f t (c q) = some (f', t')) : RS c nl (q + 1) f' t' := ⟨by rw [sA_s h.1]; exact hs, hq⟩
theorem RS.bad {c : Nat → Nat} {nl q f t : Nat} (h : RS c nl q f t) (hq : q < nl) (hs : stepF f t (c q) = none) : Wrong c nl q := Or.inl ⟨hq, ⟨_, h.1⟩, by rw [sA_s h.1]; exact hs⟩
theorem RS.fin {c : Nat → Nat} {nl q f t : Nat} (h : RS c nl q f t) (ht : t < txL f) (hq : ¬ q < nl) : Wrong c nl q := by
  have e : q = nl := by have := h.2; omega
  subst e
  exact Or.inr ⟨rfl, ⟨_, h.1⟩, Or.inr (fun ⟨f', t', h1, h2⟩ => by rw [h.1] at h1; cases h1; omega)⟩
theorem RS.adv {c : Nat → Nat} {nl q f t : Nat} (h : RS c nl q f t) (hR : Right c nl) (ht : t < txL f) : q < nl ∧ ∃ f' t', stepF f t (c q) = some (f', t') ∧ RS c nl (q + 1) f' t' := by
  have hq : q < nl := Decidable.byContradiction (fun z => hR.no (h.fin ht z))
  refine ⟨hq, ?_⟩
  cases hs : stepF f t (c q) with
  | none => exact (hR.no (h.bad hq hs)).elim
  | some p => exact ⟨p.1, p.2, rfl, h.ok hq hs⟩
/-! a STATEMENT as it must be, from p to p' -/
def Stm (c : Nat → Nat) (p p' : Nat) : Prop :=
  (c p = 101 ∧ (txF 6 (c (p + 1))).isSome = true ∧ dgt (c (p + 2)) ∧ dgt (c (p + 3)) ∧ dgt (c (p + 4)) ∧ ((c (p + 5) = 59 ∧ p' = p + 6) ∨ (dgt (c (p + 5)) ∧ c (p + 6) = 59 ∧ p' = p + 7)))
  ∨ (c p = 115 ∧ dgt (c (p + 1)) ∧ dgt (c (p + 2)) ∧ dgt (c (p + 3)) ∧ c (p + 4) = 59 ∧ p' = p + 5)
  ∨ (c p = 119 ∧ (∀ k, k < 7 → c (p + 1 + k) = 111 ∨ c (p + 1 + k) = 120) ∧ c (p + 8) = 59 ∧ p' = p + 9)
  ∨ (c p = 98 ∧ dgt (c (p + 1)) ∧ dgt (c (p + 2)) ∧ dgt (c (p + 3)) ∧ c (p + 4) = 59 ∧ p' = p + 5)
  ∨ (c p = 104 ∧ (txF 7 (c (p + 1))).isSome = true ∧ c (p + 2) = 59 ∧ p' = p + 3)
  ∨ (c p = 99 ∧ dgt (c (p + 1)) ∧ dgt (c (p + 2)) ∧ dgt (c (p + 3)) ∧ c (p + 4) = 59 ∧ p' = p + 5)
  ∨ (c p = 100 ∧ c (p + 1) = 59 ∧ p' = p + 2)
def nxt (c : Nat → Nat) (p : Nat) : Nat := p + (if c p = 101 then (if c (p + 5) = 59 then 6 else 7) else if c p = 119 then 9 else if c p = 104 then 3 else if c p = 100 then 2 else 5)
theorem Stm.nx {c : Nat → Nat} {p p' : Nat} (h : Stm c p p') : p' = nxt c p := by
  unfold nxt
  rcases h with ⟨h, -, -, -, -, h1⟩ | ⟨h, -, -, -, -, h1⟩ | ⟨h, -, -, h1⟩ | ⟨h, -, -, -, -, h1⟩ | ⟨h, -, -, h1⟩ | ⟨h, -, -, -, -, h1⟩ | ⟨h, -, h1⟩
  · rw [if_pos h]
    rcases h1 with ⟨h1, h2⟩ | ⟨h1, h3, h2⟩
    · rw [if_pos h1]; exact h2
    · rw [if_neg (by omega)]; exact h2
  · rw [if_neg (by omega), if_neg (by omega), if_neg (by omega), if_neg (by omega)]; exact h1
  · rw [if_neg (by omega), if_pos h]; exact h1
  · rw [if_neg (by omega), if_neg (by omega), if_neg (by omega), if_neg (by omega)]; exact h1
  · rw [if_neg (by omega), if_neg (by omega), if_pos h]; exact h1
  · rw [if_neg (by omega), if_neg (by omega), if_neg (by omega), if_neg (by omega)]; exact h1
  · rw [if_neg (by omega), if_neg (by omega), if_neg (by omega), if_pos h]; exact h1
theorem nxt_lt (c : Nat → Nat) (p : Nat) : p + 2 ≤ nxt c p := by
  unfold nxt
  repeat' split
  all_goals omega
/-- three figures and the end -/
theorem stm_3 {c : Nat → Nat} {nl p : Nat} (h : RS c nl (p + 1) 2 0) (hR : Right c nl) : dgt (c (p + 1)) ∧ dgt (c (p + 2)) ∧ dgt (c (p + 3)) ∧ c (p + 4) = 59 ∧ RS c nl (p + 5) 2 4 := by
  have key : ∀ {q t : Nat}, RS c nl q 2 t → t < 3 → dgt (c q) ∧ RS c nl (q + 1) 2 (t + 1) := by
    intro q t h ht
    have h57 : txN 2 t = 57 := by
      have : t = 0 ∨ t = 1 ∨ t = 2 := by omega
      rcases this with rfl | rfl | rfl <;> decide
    have hl : t < txL 2 := by have : txL 2 = 4 := by decide
                              omega
    obtain ⟨hq, f', t', hs, -⟩ := h.adv hR hl
    have hs2 := hs
    rw [st9 hl h57] at hs2
    by_cases z : dgt (c q)
    · rw [if_pos z] at hs2
      cases hs2
      exact ⟨z, h.ok hq hs⟩
    · rw [if_neg z] at hs2; cases hs2
  obtain ⟨d1, h1⟩ := key h (by decide)
  obtain ⟨d2, h2⟩ := key h1 (by decide)
  obtain ⟨d3, h3⟩ := key h2 (by decide)
  obtain ⟨hq, f', t', hs, -⟩ := h3.adv hR (by decide)
  have hs2 := hs
  rw [st59 (by decide) (by decide)] at hs2
  by_cases z : c (p + 1 + 1 + 1 + 1) = 59
  · rw [if_pos z] at hs2
    cases hs2
    exact ⟨d1, d2, d3, z, h3.ok hq hs⟩
  · rw [if_neg z] at hs2; cases hs2
theorem stm_w {c : Nat → Nat} {nl p : Nat} (h : RS c nl (p + 1) 3 0) (hR : Right c nl) : ∀ k, k ≤ 7 → (∀ j, j < k → c (p + 1 + j) = 111 ∨ c (p + 1 + j) = 120) ∧ RS c nl (p + 1 + k) 3 k := by
  intro k
  induction k with
  | zero => intro _; exact ⟨fun j hj => absurd hj (Nat.not_lt_zero _), h⟩
  | succ k ih =>
    intro hk
    obtain ⟨i1, i2⟩ := ih (by omega)
    have h87 : txN 3 k = 87 := by
      have key : ∀ i : Fin 7, txN 3 i.val = 87 := by decide
      exact key ⟨k, by omega⟩
    have hl : k < txL 3 := by have : txL 3 = 8 := by decide
                              omega
    obtain ⟨hq, f', t', hs, -⟩ := i2.adv hR hl
    have hs2 := hs
    rw [st87 hl h87] at hs2
    by_cases z : c (p + 1 + k) = 111 ∨ c (p + 1 + k) = 120
    · rw [if_pos z] at hs2
      cases hs2
      refine ⟨fun j hj => ?_, i2.ok hq hs⟩
      by_cases y : j = k
      · rw [y]; exact z
      · exact i1 j (by omega)
    · rw [if_neg z] at hs2; cases hs2
theorem RS.bnd {c : Nat → Nat} {nl q f t : Nat} (h : RS c nl q f t) (ht : txL f ≤ t) : Bnd (sA c q) := ⟨f, t, h.1, ht⟩
theorem stm_of {c : Nat → Nat} {nl p : Nat} (hb : Bnd (sA c p)) (hp : p < nl) (hR : Right c nl) : ∃ p', Stm c p p' ∧ p' ≤ nl ∧ Bnd (sA c p') := by
  obtain ⟨f, t, hs, ht⟩ := hb
  have h0 : RS c nl p f t := ⟨hs, Nat.le_of_lt hp⟩
  have hst := stb (s := c p) ht
  by_cases hz : txL (fB (c p)) = 0
  · rw [if_pos hz] at hst
    exact (hR.no (h0.bad hp hst)).elim
  · rw [if_neg hz] at hst
    have h1 := h0.ok hp hst
    by_cases e1 : c p = 101
    · have hf : fB (c p) = 1 := by rw [e1]; decide
      rw [hf] at h1
      obtain ⟨hq, f', t', hs1, -⟩ := h1.adv hR (by decide)
      have hs2 := hs1
      rw [st69] at hs2
      by_cases z1 : (txF 6 (c (p + 1))).isSome = true
      · rw [if_pos z1] at hs2
        cases hs2
        have h2 := h1.ok hq hs1
        have key : ∀ {q t : Nat}, RS c nl q 1 t → (t = 1 ∨ t = 2 ∨ t = 3) → dgt (c q) ∧ RS c nl (q + 1) 1 (t + 1) := by
          intro q t h ht
          have h57 : txN 1 t = 57 := by rcases ht with rfl | rfl | rfl <;> decide
          have hl : t < txL 1 := by have : txL 1 = 6 := by decide
                                    omega
          obtain ⟨hq, f', t', hs, -⟩ := h.adv hR hl
          have hs2 := hs
          rw [st9 hl h57] at hs2
          by_cases z : dgt (c q)
          · rw [if_pos z] at hs2
            cases hs2
            exact ⟨z, h.ok hq hs⟩
          · rw [if_neg z] at hs2; cases hs2
        obtain ⟨d1, h3⟩ := key h2 (by decide)
        obtain ⟨d2, h4⟩ := key h3 (by decide)
        obtain ⟨d3, h5⟩ := key h4 (by decide)
        obtain ⟨hq5, f5, t5, hs5, -⟩ := h5.adv hR (by decide)
        have hs6 := hs5
        rw [st63] at hs6
        by_cases z2 : dgt (c (p + 1 + 1 + 1 + 1 + 1))
        · rw [if_pos z2] at hs6
          cases hs6
          have h6 := h5.ok hq5 hs5
          obtain ⟨hq7, f7, t7, hs7, -⟩ := h6.adv hR (by decide)
          have hs8 := hs7
          rw [st59 (by decide) (by decide)] at hs8
          by_cases z3 : c (p + 1 + 1 + 1 + 1 + 1 + 1) = 59
          · rw [if_pos z3] at hs8
            cases hs8
            have h7 := h6.ok hq7 hs7
            exact ⟨p + 7, Or.inl ⟨e1, z1, d1, d2, d3, Or.inr ⟨z2, z3, rfl⟩⟩, h7.2, h7.bnd (by decide)⟩
          · rw [if_neg z3] at hs8; cases hs8
        · rw [if_neg z2] at hs6
          by_cases z3 : c (p + 1 + 1 + 1 + 1 + 1) = 59
          · rw [if_pos z3] at hs6
            cases hs6
            have h6 := h5.ok hq5 hs5
            exact ⟨p + 6, Or.inl ⟨e1, z1, d1, d2, d3, Or.inl ⟨z3, rfl⟩⟩, h6.2, h6.bnd (by decide)⟩
          · rw [if_neg z3] at hs6; cases hs6
      · rw [if_neg z1] at hs2; cases hs2
    · by_cases e2 : c p = 115 ∨ c p = 98 ∨ c p = 99
      · have hf : fB (c p) = 2 := by unfold fB; rw [if_neg e1, if_pos e2]
        rw [hf] at h1
        obtain ⟨d1, d2, d3, d4, h5⟩ := stm_3 h1 hR
        refine ⟨p + 5, ?_, h5.2, h5.bnd (by decide)⟩
        rcases e2 with e2 | e2 | e2
        · exact Or.inr (Or.inl ⟨e2, d1, d2, d3, d4, rfl⟩)
        · exact Or.inr (Or.inr (Or.inr (Or.inl ⟨e2, d1, d2, d3, d4, rfl⟩)))
        · exact Or.inr (Or.inr (Or.inr (Or.inr (Or.inr (Or.inl ⟨e2, d1, d2, d3, d4, rfl⟩)))))
      · by_cases e3 : c p = 119
        · have hf : fB (c p) = 3 := by rw [e3]; decide
          rw [hf] at h1
          obtain ⟨w1, w2⟩ := stm_w h1 hR 7 (Nat.le_refl 7)
          obtain ⟨hq, f', t', hs1, -⟩ := w2.adv hR (by decide)
          have hs2 := hs1
          rw [st59 (by decide) (by decide)] at hs2
          by_cases z : c (p + 1 + 7) = 59
          · rw [if_pos z] at hs2
            cases hs2
            have h9 := w2.ok hq hs1
            exact ⟨p + 9, Or.inr (Or.inr (Or.inl ⟨e3, w1, z, rfl⟩)), h9.2, h9.bnd (by decide)⟩
          · rw [if_neg z] at hs2; cases hs2
        · by_cases e4 : c p = 104
          · have hf : fB (c p) = 4 := by rw [e4]; decide
            rw [hf] at h1
            obtain ⟨hq, f', t', hs1, -⟩ := h1.adv hR (by decide)
            have hs2 := hs1
            rw [st72] at hs2
            by_cases z1 : (txF 7 (c (p + 1))).isSome = true
            · rw [if_pos z1] at hs2
              cases hs2
              have h2 := h1.ok hq hs1
              obtain ⟨hq3, f3, t3, hs3, -⟩ := h2.adv hR (by decide)
              have hs4 := hs3
              rw [st59 (by decide) (by decide)] at hs4
              by_cases z : c (p + 1 + 1) = 59
              · rw [if_pos z] at hs4
                cases hs4
                have h3 := h2.ok hq3 hs3
                exact ⟨p + 3, Or.inr (Or.inr (Or.inr (Or.inr (Or.inl ⟨e4, z1, z, rfl⟩)))), h3.2, h3.bnd (by decide)⟩
              · rw [if_neg z] at hs4; cases hs4
            · rw [if_neg z1] at hs2; cases hs2
          · by_cases e5 : c p = 100
            · have hf : fB (c p) = 5 := by rw [e5]; decide
              rw [hf] at h1
              obtain ⟨hq, f', t', hs1, -⟩ := h1.adv hR (by decide)
              have hs2 := hs1
              rw [st59 (by decide) (by decide)] at hs2
              by_cases z : c (p + 1) = 59
              · rw [if_pos z] at hs2
                cases hs2
                have h2 := h1.ok hq hs1
                exact ⟨p + 2, Or.inr (Or.inr (Or.inr (Or.inr (Or.inr (Or.inr ⟨e5, z, rfl⟩))))), h2.2, h2.bnd (by decide)⟩
              · rw [if_neg z] at hs2; cases hs2
            · have hf : fB (c p) = 0 := by unfold fB; rw [if_neg e1, if_neg e2, if_neg e3, if_neg e4, if_neg e5]
              exact absurd (by rw [hf]; decide) hz
/-! what a STATEMENT does -/
def two (c : Nat → Nat) (q : Nat) : Nat := 10 * (c q - 48) + (c (q + 1) - 48)
def chn (c : Nat → Nat) (p : Nat) : Nat := if c (p + 5) = 59 then c (p + 4) - 48 else two c (p + 4)
def kiE (c : Nat → Nat) (p : Nat) : Nat := (txF 6 (c (p + 1))).getD 0
def kiH (c : Nat → Nat) (p : Nat) : Nat := (txF 7 (c (p + 1))).getD 0
def addE (a : Row) (k h b ch : Nat) : Row := ua (ua (ua (ua (ua a (30 + 4 * a 0) k) (30 + 4 * a 0 + 1) h) (30 + 4 * a 0 + 2) b) (30 + 4 * a 0 + 3) ch) 0 (a 0 + 1)
def opR (c : Nat → Nat) (p k : Nat) (a : Row) : Row := fun j => if 20 ≤ j ∧ j < 20 + k then (if c (p + 1 + (j - 20)) = 111 then 1 else 0) else a j
def effS (c : Nat → Nat) (a : Row) (p : Nat) : Option Row :=
  if c p = 101 then (if 1 ≤ chn c p ∧ chn c p ≤ 10 ∧ a 0 < 4 then some (addE a (kiE c p) (c (p + 2) - 48) (c (p + 3) - 48) (chn c p)) else none)
  else if c p = 115 then (if c (p + 1) - 48 < 5 ∧ two c (p + 2) ≤ 60 then some (ua a (10 + (c (p + 1) - 48)) (two c (p + 2))) else none)
  else if c p = 119 then some (opR c p 7 a)
  else if c p = 98 then (if two c (p + 1) ≤ 30 then some (ua (ua a 2 (two c (p + 1))) 3 (c (p + 3) - 48)) else none)
  else if c p = 104 then some (ua a 7 (kiH c p))
  else if c p = 99 then some (ua (ua (ua a 4 (c (p + 1) - 48)) 5 (c (p + 2) - 48)) 6 (c (p + 3) - 48))
  else if a 1 < 9999 then some (dyR (hun a) a 0) else none
def hS (c : Nat → Nat) (nl : Nat) : Nat → Nat → Row → Nat → Int32 × Option Row
  | 0, _, a, k => (nI k, some a)
  | m + 1, p, a, k => if nl ≤ p then (nI k, some a) else match effS c a p with
    | none => (-2000 - nI p, none)
    | some a' => hS c nl m (nxt c p) a' (k + 1)
noncomputable def wpO (c : Nat → Nat) (nl : Nat) : Option Nat := @dite (Option Nat) (∃ q, Wrong c nl q) (Classical.propDecidable _) (fun h => some h.choose) (fun _ => none)
theorem wpO_w {c : Nat → Nat} {nl q : Nat} (h : Wrong c nl q) : wpO c nl = some q := by
  unfold wpO
  have hx : ∃ q, Wrong c nl q := ⟨q, h⟩
  rw [dif_pos hx]
  exact congrArg some ((Classical.choose_spec hx).uq h)
theorem wpO_r {c : Nat → Nat} {nl : Nat} (h : Right c nl) : wpO c nl = none := by
  unfold wpO
  exact dif_neg (fun ⟨q, hq⟩ => h.no hq)
noncomputable def spHouse (A : AS) : Int32 × AS := match wpO (Ac A) (Al A) with
  | some q => (-1000 - nI q, sAl A 0 (Ac A))
  | none => ((hS (Ac A) (Al A) 96 0 (Aa A) 0).1, sAl (sAa A (((hS (Ac A) (Al A) 96 0 (Aa A) 0).2).getD (Aa A))) 0 (Ac A))
theorem txF_lt {i s k : Nat} (h : txF i s = some k) : k < txL i ∧ txN i k = s := by
  unfold txF at h
  rw [List.find?_range_eq_some] at h
  exact ⟨List.mem_range.mp h.2.1, of_decide_eq_true h.1⟩
theorem kiE_5 {c : Nat → Nat} {p : Nat} (h : (txF 6 (c (p + 1))).isSome = true) : txF 6 (c (p + 1)) = some (kiE c p) ∧ kiE c p ≤ 5 := by
  unfold kiE
  cases hx : txF 6 (c (p + 1)) with
  | none => rw [hx] at h; cases h
  | some k =>
    have h1 := (txF_lt hx).1
    have h6 : txL 6 = 6 := by decide
    exact ⟨rfl, by show k ≤ 5; omega⟩
theorem kiH_5 {c : Nat → Nat} {p : Nat} (h : (txF 7 (c (p + 1))).isSome = true) : txF 7 (c (p + 1)) = some (kiH c p) ∧ kiH c p ≤ 5 := by
  unfold kiH
  cases hx : txF 7 (c (p + 1)) with
  | none => rw [hx] at h; cases h
  | some k =>
    have h1 := (txF_lt hx).1
    have h6 : txL 7 = 6 := by decide
    exact ⟨rfl, by show k ≤ 5; omega⟩
theorem addE_at (a : Row) (k h b ch j : Nat) : addE a k h b ch j = if j = 0 then a 0 + 1 else if j = 30 + 4 * a 0 + 3 then ch else if j = 30 + 4 * a 0 + 2 then b else if j = 30 + 4 * a 0 + 1 then h else if j = 30 + 4 * a 0 then k else a j := rfl
theorem eff_ok {c : Nat → Nat} {p p' : Nat} {a a' : Row} (hS : Stm c p p') (hB : Bd a) (hD : D9 a) (h : effS c a p = some a') : Bd a' ∧ D9 a' := by
  obtain ⟨hBa, hB0, hB1, hB2, hB3, hB4, hB5, hB6, hB7, hBs, hBp, hBe⟩ := id hB
  unfold effS at h
  rcases hS with ⟨e, k1, d1, d2, d3, -⟩ | ⟨e, d1, d2, d3, -⟩ | ⟨e, -⟩ | ⟨e, d1, d2, d3, -⟩ | ⟨e, k1, -⟩ | ⟨e, d1, d2, d3, -⟩ | ⟨e, -⟩
  · rw [if_pos e] at h
    by_cases z : 1 ≤ chn c p ∧ chn c p ≤ 10 ∧ a 0 < 4
    · rw [if_pos z] at h
      cases h
      have hk := (kiE_5 k1).2
      have key : ∀ j, j ≠ 0 → (∀ q, q < 4 → j ≠ 30 + 4 * a 0 + q) → addE a (kiE c p) (c (p + 2) - 48) (c (p + 3) - 48) (chn c p) j = a j := fun j h0 hq => by
        rw [addE_at, if_neg h0, if_neg (hq 3 (by omega)), if_neg (hq 2 (by omega)), if_neg (hq 1 (by omega)), if_neg (fun y => hq 0 (by omega) (by omega))]
      refine ⟨⟨fun j => ?_, ?_, ?_, ?_, ?_, ?_, ?_, ?_, ?_, fun k hk => ?_, fun k hk => ?_, fun e he => ?_⟩, ?_, fun e he => ?_⟩
      · rw [addE_at]
        have := hBa j
        repeat' split
        all_goals omega
      · rw [addE_at, if_pos rfl]; omega
      · rw [key 1 (by omega) (fun q hq => by omega)]; exact hB1
      · rw [key 2 (by omega) (fun q hq => by omega)]; exact hB2
      · rw [key 3 (by omega) (fun q hq => by omega)]; exact hB3
      · rw [key 4 (by omega) (fun q hq => by omega)]; exact hB4
      · rw [key 5 (by omega) (fun q hq => by omega)]; exact hB5
      · rw [key 6 (by omega) (fun q hq => by omega)]; exact hB6
      · rw [key 7 (by omega) (fun q hq => by omega)]; exact hB7
      · rw [key _ (by omega) (fun q hq => by omega)]; exact hBs k hk
      · rw [key _ (by omega) (fun q hq => by omega)]; exact hBp k hk
      · by_cases y : e = a 0
        · rw [y, addE_at, addE_at, addE_at, addE_at]
          refine ⟨?_, ?_, ?_, ?_⟩
          · rw [if_neg (by omega), if_neg (by omega), if_neg (by omega), if_neg (by omega), if_pos rfl]; exact hk
          · rw [if_neg (by omega), if_neg (by omega), if_neg (by omega), if_pos rfl]; omega
          · rw [if_neg (by omega), if_neg (by omega), if_pos rfl]; omega
          · rw [if_neg (by omega), if_pos rfl]; omega
        · rw [key _ (by omega) (fun q hq => by omega), key _ (by omega) (fun q hq => by omega), key _ (by omega) (fun q hq => by omega), key _ (by omega) (fun q hq => by omega)]
          exact hBe e he
      · rw [key 1 (by omega) (fun q hq => by omega)]; exact hD.1
      · by_cases y : e = a 0
        · rw [y, addE_at, if_neg (by omega), if_neg (by omega), if_neg (by omega), if_pos rfl]; omega
        · rw [key _ (by omega) (fun q hq => by omega)]; exact hD.2 e he
    · rw [if_neg z] at h; cases h
  · rw [if_neg (by omega), if_pos e] at h
    by_cases z : c (p + 1) - 48 < 5 ∧ two c (p + 2) ≤ 60
    · rw [if_pos z] at h
      cases h
      exact ⟨hB.us z.1 z.2, by rw [ua_at, if_neg (by omega)]; exact hD.1, fun e he => by rw [ua_at, if_neg (by omega)]; exact hD.2 e he⟩
    · rw [if_neg z] at h; cases h
  · rw [if_neg (by omega), if_neg (by omega), if_pos e] at h
    cases h
    have key : ∀ j, (j < 20 ∨ 27 ≤ j) → opR c p 7 a j = a j := fun j hj => by unfold opR; rw [if_neg (by omega)]
    refine ⟨⟨fun j => ?_, ?_, ?_, ?_, ?_, ?_, ?_, ?_, ?_, fun k hk => ?_, fun k hk => ?_, fun e he => ?_⟩, ?_, fun e he => ?_⟩
    · unfold opR
      have := hBa j
      repeat' split
      all_goals omega
    · rw [key 0 (by omega)]; exact hB0
    · rw [key 1 (by omega)]; exact hB1
    · rw [key 2 (by omega)]; exact hB2
    · rw [key 3 (by omega)]; exact hB3
    · rw [key 4 (by omega)]; exact hB4
    · rw [key 5 (by omega)]; exact hB5
    · rw [key 6 (by omega)]; exact hB6
    · rw [key 7 (by omega)]; exact hB7
    · rw [key _ (by omega)]; exact hBs k hk
    · unfold opR
      rw [if_pos (by omega)]
      split <;> omega
    · rw [key _ (by omega), key _ (by omega), key _ (by omega), key _ (by omega)]; exact hBe e he
    · rw [key 1 (by omega)]; exact hD.1
    · rw [key _ (by omega)]; exact hD.2 e he
  · rw [if_neg (by omega), if_neg (by omega), if_neg (by omega), if_pos e] at h
    by_cases z : two c (p + 1) ≤ 30
    · rw [if_pos z] at h
      cases h
      refine ⟨(hB.ut (s := 0) (by omega) ((nj_le (b := 30) (by omega) (by omega)).mpr z) (by omega)).ut (s := 1) (by omega) ((nj_le (b := 9) (by omega) (by omega)).mpr (by omega)) (by omega), ?_, fun e he => ?_⟩
      · rw [ua_at, if_neg (by omega), ua_at, if_neg (by omega)]; exact hD.1
      · rw [ua_at, if_neg (by omega), ua_at, if_neg (by omega)]; exact hD.2 e he
    · rw [if_neg z] at h; cases h
  · rw [if_neg (by omega), if_neg (by omega), if_neg (by omega), if_neg (by omega), if_pos e] at h
    cases h
    have hk := (kiH_5 k1).2
    refine ⟨hB.ut (s := 5) (by omega) ((nj_le (b := 5) (by omega) (by omega)).mpr hk) (by omega), ?_, fun e he => ?_⟩
    · rw [ua_at, if_neg (by omega)]; exact hD.1
    · rw [ua_at, if_neg (by omega)]; exact hD.2 e he
  · rw [if_neg (by omega), if_neg (by omega), if_neg (by omega), if_neg (by omega), if_neg (by omega), if_pos e] at h
    cases h
    refine ⟨((hB.ut (s := 2) (by omega) ((nj_le (b := 9) (by omega) (by omega)).mpr (by omega)) (by omega)).ut (s := 3) (by omega) ((nj_le (b := 9) (by omega) (by omega)).mpr (by omega)) (by omega)).ut (s := 4) (by omega) ((nj_le (b := 9) (by omega) (by omega)).mpr (by omega)) (by omega), ?_, fun e he => ?_⟩
    · rw [ua_at, if_neg (by omega), ua_at, if_neg (by omega), ua_at, if_neg (by omega)]; exact hD.1
    · rw [ua_at, if_neg (by omega), ua_at, if_neg (by omega), ua_at, if_neg (by omega)]; exact hD.2 e he
  · rw [if_neg (by omega), if_neg (by omega), if_neg (by omega), if_neg (by omega), if_neg (by omega), if_neg (by omega)] at h
    by_cases z : a 1 < 9999
    · rw [if_pos z] at h
      cases h
      exact ⟨dyR_bd hB (by omega), by rw [dyR_1]; omega, fun e he => by rw [dyR_at _ _ _ _ (by omega) (by omega)]; exact hD.2 e he⟩
    · rw [if_neg z] at h; cases h
/-- the letters before the end are no end -/
theorem Stm.end {c : Nat → Nat} {p p' : Nat} (h : Stm c p p') : p + 2 ≤ p' ∧ c (p' - 1) = 59 ∧ ∀ j, p ≤ j → j < p' - 1 → ¬ c j = 59 := by
  have k6 : ∀ s, (txF 6 s).isSome = true → s ≠ 59 := fun s hs z => by subst z; revert hs; decide
  have k7 : ∀ s, (txF 7 s).isSome = true → s ≠ 59 := fun s hs z => by subst z; revert hs; decide
  rcases h with ⟨e, k1, d1, d2, d3, h1⟩ | ⟨e, d1, d2, d3, d4, h1⟩ | ⟨e, d1, d2, h1⟩ | ⟨e, d1, d2, d3, d4, h1⟩ | ⟨e, k1, d2, h1⟩ | ⟨e, d1, d2, d3, d4, h1⟩ | ⟨e, d1, h1⟩
  · have k := k6 _ k1
    rcases h1 with ⟨d4, h1⟩ | ⟨d4, d5, h1⟩
    · subst h1
      refine ⟨by omega, d4, fun j j1 j2 => ?_⟩
      have : j = p ∨ j = p + 1 ∨ j = p + 2 ∨ j = p + 3 ∨ j = p + 4 := by omega
      rcases this with rfl | rfl | rfl | rfl | rfl <;> omega
    · subst h1
      refine ⟨by omega, d5, fun j j1 j2 => ?_⟩
      have : j = p ∨ j = p + 1 ∨ j = p + 2 ∨ j = p + 3 ∨ j = p + 4 ∨ j = p + 5 := by omega
      rcases this with rfl | rfl | rfl | rfl | rfl | rfl <;> omega
  · subst h1
    refine ⟨by omega, d4, fun j j1 j2 => ?_⟩
    have : j = p ∨ j = p + 1 ∨ j = p + 2 ∨ j = p + 3 := by omega
    rcases this with rfl | rfl | rfl | rfl <;> omega
  · subst h1
    refine ⟨by omega, d2, fun j j1 j2 => ?_⟩
    by_cases z : j = p
    · rw [z]; omega
    · have := d1 (j - (p + 1)) (by omega)
      rw [show p + 1 + (j - (p + 1)) = j by omega] at this
      omega
  · subst h1
    refine ⟨by omega, d4, fun j j1 j2 => ?_⟩
    have : j = p ∨ j = p + 1 ∨ j = p + 2 ∨ j = p + 3 := by omega
    rcases this with rfl | rfl | rfl | rfl <;> omega
  · have k := k7 _ k1
    subst h1
    refine ⟨by omega, d2, fun j j1 j2 => ?_⟩
    have : j = p ∨ j = p + 1 := by omega
    rcases this with rfl | rfl <;> omega
  · subst h1
    refine ⟨by omega, d4, fun j j1 j2 => ?_⟩
    have : j = p ∨ j = p + 1 ∨ j = p + 2 ∨ j = p + 3 := by omega
    rcases this with rfl | rfl | rfl | rfl <;> omega
  · subst h1
    refine ⟨by omega, d1, fun j j1 j2 => ?_⟩
    have : j = p := by omega
    rcases this with rfl; omega
