/-! ===== the reference's rows ===== -/
def Mr (σ : SG) (c : Nat) (a : Row) : Prop := ∀ j, j < 46 → σ c j = nI (a j)
theorem Mr.u {σ : SG} {c : Nat} {a : Row} (h : Mr σ c a) {k v : Nat} : Mr (up σ c k (nI v)) c (ua a k v) := fun j hj => by
  rw [up_at, ua_at]
  by_cases z : j = k
  · rw [if_pos ⟨rfl, z⟩, if_pos z]
  · rw [if_neg (fun y => z y.2), if_neg z]; exact h j hj
theorem Mr.fr {σ τ : SG} {c : Nat} {a : Row} (h : Mr σ c a) (hf : τ c = σ c) : Mr τ c a := fun j hj => by rw [hf]; exact h j hj
theorem Mr.ext {σ : SG} {c : Nat} {a a' : Row} (h : Mr σ c a) (he : ∀ j, j < 46 → a' j = a j) : Mr σ c a' := fun j hj => by rw [he j hj]; exact h j hj
theorem nj_max0 {a b : Nat} (ha : a < 2 ^ 31) (hb : b < 2 ^ 31) : (if (0 : Int32) < nI a - nI b then nI a - nI b else 0) = nI (a - b) := by
  by_cases h : b ≤ a
  · rw [nj_minus h]
    by_cases z : a - b = 0
    · rw [z]; decide
    · have z3 : (0 : Int32) < nI (a - b) := (nj_lt (a := 0) (b := a - b) (by omega) (by omega)).mpr (by omega)
      rw [if_pos z3]
  · have e : nI a - nI b = -nI (b - a) := by
      rw [← nj_minus (a := b) (b := a) (by omega), Int32.neg_sub]
    have h2 : ¬ (0 : Int32) < -nI (b - a) := fun q => by
      rw [Int32.lt_iff_toInt_lt, Int32.toInt_zero, Int32.toInt_neg, nj_toInt (by omega), Int.bmod_eq_of_le (by omega) (by omega)] at q
      omega
    rw [e, if_neg h2, show a - b = 0 by omega]
    rfl
/-- what is taken next, as the reference looks for it -/
def pkR (a : Row) (e : Nat) : Nat → Option Nat
  | 0 => none
  | m + 1 => if 0 < a (10 + (4 - m)) ∧ eats a e (4 - m) then (match pkR a e m with
    | none => some (4 - m)
    | some f => if way a = 1 ∨ (way a = 2 ∧ wNt a e f < wNt a e (4 - m)) then some (4 - m) else some f) else pkR a e m
theorem pr_step {a : Row} {e g : Nat} (hg : g < 5) : pkR a e (5 - g) = if 0 < a (10 + g) ∧ eats a e g then (match pkR a e (5 - (g + 1)) with
    | none => some g
    | some f => if way a = 1 ∨ (way a = 2 ∧ wNt a e f < wNt a e g) then some g else some f) else pkR a e (5 - (g + 1)) := by
  have e1 : 5 - g = (5 - (g + 1)) + 1 := by omega
  have e2 : 4 - (5 - (g + 1)) = g := by omega
  rw [e1, pkR, e2]
theorem pr_skip {a : Row} {e g : Nat} (hg : g < 5) (h : ¬ (0 < a (10 + g) ∧ eats a e g)) : pkR a e (5 - g) = pkR a e (5 - (g + 1)) := by rw [pr_step hg, if_neg h]
theorem pr_take0 {a : Row} {e g : Nat} (hg : g < 5) (h : 0 < a (10 + g)) (h' : eats a e g) (ho : pkR a e (5 - (g + 1)) = none) : pkR a e (5 - g) = some g := by rw [pr_step hg, if_pos ⟨h, h'⟩, ho]
theorem pr_take {a : Row} {e g f : Nat} (hg : g < 5) (h : 0 < a (10 + g)) (h' : eats a e g) (ho : pkR a e (5 - (g + 1)) = some f) (hw : way a = 1 ∨ (way a = 2 ∧ wNt a e f < wNt a e g)) : pkR a e (5 - g) = some g := by rw [pr_step hg, if_pos ⟨h, h'⟩, ho]; exact if_pos hw
theorem pr_keep {a : Row} {e g f : Nat} (hg : g < 5) (h : 0 < a (10 + g)) (h' : eats a e g) (ho : pkR a e (5 - (g + 1)) = some f) (hw : ¬ (way a = 1 ∨ (way a = 2 ∧ wNt a e f < wNt a e g))) : pkR a e (5 - g) = some f := by rw [pr_step hg, if_pos ⟨h, h'⟩, ho]; exact if_neg hw
theorem pkR_lt {a : Row} {e : Nat} : ∀ m g, m ≤ 5 → pkR a e m = some g → 5 ≤ g + m ∧ g < 5 := by
  intro m
  induction m with
  | zero => intro g _ h; cases h
  | succ m ih =>
    intro g hm h
    rw [pkR] at h
    by_cases q : 0 < a (10 + (4 - m)) ∧ eats a e (4 - m)
    · rw [if_pos q] at h
      cases hp : pkR a e m with
      | none =>
        rw [hp] at h
        have := Option.some.inj h
        omega
      | some f =>
        rw [hp] at h
        dsimp only at h
        have i := ih f (by omega) hp
        by_cases z : way a = 1 ∨ (way a = 2 ∧ wNt a e f < wNt a e (4 - m))
        · rw [if_pos z] at h
          have := Option.some.inj h
          omega
        · rw [if_neg z] at h
          have := Option.some.inj h
          omega
    · rw [if_neg q] at h
      have := ih g (by omega) h
      omega
theorem pkR_C {a : Row} {e : Nat} : ∀ m, m ≤ 4 → pkR a e m = pkC a e m := by
  intro m
  induction m with
  | zero => intro _; rfl
  | succ m ih =>
    intro hm
    have hr : reachC a (4 - m) ↔ 0 < a (10 + (4 - m)) := by
      unfold reachC
      rw [if_neg (by omega)]
    by_cases q : 0 < a (10 + (4 - m)) ∧ eats a e (4 - m)
    · rw [pkR, pkC, if_pos q, if_pos ⟨hr.mpr q.1, q.2⟩, ih (by omega)]
      rfl
    · rw [pkR, pkC, if_neg q, if_neg (fun z => q ⟨hr.mp z.1, z.2⟩), ih (by omega)]
def nxR (a : Row) (e : Nat) : Option Nat := if pkR a e 5 = some 0 ∧ (way a = 3 ∨ way a = 5) ∧ a 10 ≤ 3 then none else pkR a e 5
theorem way_35 (a : Row) : (way a = 3 ∨ way a = 5) ↔ (a 7 = 3 ∨ a 7 = 5) := by
  unfold way
  by_cases h : a 7 = 4
  · rw [if_pos h]
    split <;> omega
  · rw [if_neg h]
theorem nxR_eq (a : Row) (e : Nat) : nxR a e = nxC a e := by
  unfold nxR nxC
  have h4 := pkR_C (a := a) (e := e) 4 (by omega)
  have sR := pr_step (a := a) (e := e) (g := 0) (by omega)
  have sC := pk_step (a := a) (e := e) (g := 0) (by omega)
  have e5 : 5 - 0 = 5 := rfl
  have e4 : 5 - (0 + 1) = 4 := rfl
  have e10 : 10 + 0 = 10 := rfl
  rw [e5, e4, e10, h4] at sR
  rw [e5, e4] at sC
  by_cases ht : a 7 = 3 ∨ a 7 = 5
  · have hw : ¬ (way a = 1) ∧ ¬ (way a = 2) := by have := (way_35 a).mpr ht; omega
    have hr : reachC a 0 ↔ 3 < a 10 := by unfold reachC; rw [if_pos ⟨rfl, ht⟩]
    cases hp : pkC a e 4 with
    | none =>
      rw [hp] at sR sC
      dsimp only at sR sC
      by_cases he : eats a e 0
      · by_cases h3 : 3 < a 10
        · rw [if_pos ⟨by omega, he⟩] at sR
          rw [if_pos ⟨hr.mpr h3, he⟩] at sC
          rw [sR, sC, if_neg (by omega)]
        · rw [if_neg (fun z : reachC a 0 ∧ eats a e 0 => h3 (hr.mp z.1))] at sC
          by_cases h0 : 0 < a 10
          · rw [if_pos ⟨h0, he⟩] at sR
            rw [sR, sC, if_pos ⟨rfl, (way_35 a).mpr ht, by omega⟩]
          · rw [if_neg (fun z : 0 < a 10 ∧ eats a e 0 => h0 z.1)] at sR
            rw [sR, sC]
            split <;> rfl
      · rw [if_neg (fun z : 0 < a 10 ∧ eats a e 0 => he z.2)] at sR
        rw [if_neg (fun z : reachC a 0 ∧ eats a e 0 => he z.2)] at sC
        rw [sR, sC]
        split <;> rfl
    | some f =>
      have hf := pkC_spec 4 f (by omega) hp
      have hnw : ¬ (way a = 1 ∨ (way a = 2 ∧ wNt a e f < wNt a e 0)) := by omega
      rw [hp] at sR sC
      dsimp only at sR sC
      rw [if_neg hnw] at sR sC
      have z1 : pkR a e 5 = some f := by rw [sR]; split <;> rfl
      have z2 : pkC a e 5 = some f := by rw [sC]; split <;> rfl
      rw [z1, z2, if_neg (fun z => by have := Option.some.inj z.1; omega)]
  · have hr : reachC a 0 ↔ 0 < a 10 := by unfold reachC; rw [if_neg (fun z => ht z.2)]
    rw [if_neg (fun z => ht ((way_35 a).mp z.2.1)), sR, sC]
    by_cases q : 0 < a 10 ∧ eats a e 0
    · rw [if_pos q, if_pos ⟨hr.mpr q.1, q.2⟩]
      rfl
    · rw [if_neg q, if_neg (fun z => q ⟨hr.mp z.1, z.2⟩)]
theorem oJ9_neg {o : Option Nat} {y : Int32} (hy : y = oJ o (-9)) (h : y = -9) (hb : ∀ g, o = some g → g < 5) : o = none := by
  cases o with
  | none => rfl
  | some g =>
    have h2 : nI g = -9 := hy.symm.trans h
    have h1 := congrArg Int32.toInt h2
    have := hb g rfl
    rw [nj_toInt (by omega), show (-9 : Int32).toInt = -9 by decide] at h1
    omega
theorem oJ9_pos {o : Option Nat} {y : Int32} (hy : y = oJ o (-9)) (h : ¬ y = -9) : ∃ g, o = some g ∧ y = nI g := by
  cases o with
  | none => exact absurd hy h
  | some g => exact ⟨g, rfl, hy⟩
theorem wJ_nn {a : Row} (hB : ∀ j, a j ≤ 30000) {e g : Nat} : wJ a e g < 0 ↔ ¬ eats a e g := by
  unfold wJ
  by_cases h : eats a e g
  · rw [if_pos h]
    exact ⟨fun q => absurd q (nj_nn (by have := wNt_le hB e g; omega)), fun q => absurd h q⟩
  · rw [if_neg h]
    exact ⟨fun _ => h, fun _ => by decide⟩
theorem pkR_eats {a : Row} {e : Nat} : ∀ {m g}, pkR a e m = some g → eats a e g := by
  intro m
  induction m with
  | zero => intro g h; cases h
  | succ m ih =>
    intro g h
    rw [pkR] at h
    by_cases q : 0 < a (10 + (4 - m)) ∧ eats a e (4 - m)
    · rw [if_pos q] at h
      cases hp : pkR a e m with
      | none => rw [hp] at h; rw [← Option.some.inj h]; exact q.2
      | some f =>
        rw [hp] at h
        dsimp only at h
        by_cases z : way a = 1 ∨ (way a = 2 ∧ wNt a e f < wNt a e (4 - m))
        · rw [if_pos z] at h; rw [← Option.some.inj h]; exact q.2
        · rw [if_neg z] at h; rw [← Option.some.inj h]; exact ih hp
    · rw [if_neg q] at h; exact ih h
theorem oJ_zero {a : Row} {e : Nat} {y : Int32} (hy : y = oJ (pkR a e 5) (-9)) (h : y = 0) : pkR a e 5 = some 0 := by
  cases hp : pkR a e 5 with
  | none => rw [hp] at hy; rw [hy] at h; exact absurd h (by decide)
  | some g =>
    rw [hp] at hy
    have h2 := pkR_lt 5 g (by omega) hp
    have h3 : nI g = nI 0 := hy.symm.trans h
    rw [(nj_eq (by omega) (by omega)).mp h3]
