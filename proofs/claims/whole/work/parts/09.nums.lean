theorem nj_min {a b : Nat} (ha : a < 2 ^ 31) (hb : b < 2 ^ 31) : (if nI b < nI a then nI b else nI a) = nI (min a b) := by
  by_cases h : b < a
  · rw [if_pos ((nj_lt hb ha).mpr h), Nat.min_eq_right (Nat.le_of_lt h)]
  · rw [if_neg (fun q => h ((nj_lt hb ha).mp q)), Nat.min_eq_left (by omega)]
theorem nj_toInt {a : Nat} (h : a < 2 ^ 31) : (nI a).toInt = a := nI_toInt h
theorem nj_div {a b : Nat} (ha : a < 2 ^ 31) (hb : b < 2 ^ 31) : nI a / nI b = nI (a / b) := by
  have h1 : a / b ≤ a := Nat.div_le_self a b
  rw [← Int32.toInt_inj, Int32.toInt_div, nj_toInt ha, nj_toInt hb, nj_toInt (by omega)]
  rw [← Int.ofNat_tdiv]
  generalize a / b = q at h1 ⊢
  rw [Int.bmod_eq_of_le] <;> omega
theorem nj_div2 {a : Nat} (ha : a < 2 ^ 31) : nI a / 2 = nI (a / 2) := nj_div ha (by decide)
theorem nj_rem {a b : Nat} (ha : a < 2 ^ 31) (hb : b < 2 ^ 31) : nI a - nI a / nI b * nI b = nI (a % b) := by
  rw [nj_div ha hb, nj_times, nj_minus (Nat.div_mul_le_self a b)]
  congr 1
  have := Nat.div_add_mod a b
  rw [Nat.mul_comm] at this
  omega
theorem nj_pred {q : Nat} {x : Int32} (hx : x = nI q - 1) (h : ¬ x < 0) (hq : q < 2 ^ 31) : ∃ g, q = g + 1 ∧ x = nI g := by
  cases q with
  | zero => subst hx; exact absurd (by decide) h
  | succ g => exact ⟨g, rfl, by rw [hx]; exact nj_minus (a := g + 1) (b := 1) (by omega)⟩
theorem nj_pred0 {q : Nat} {x : Int32} (hx : x = nI q - 1) (h : x < 0) (hq : q < 2 ^ 31) : q = 0 := by
  cases q with
  | zero => rfl
  | succ g =>
    have h1 : x = nI g := by rw [hx]; exact nj_minus (a := g + 1) (b := 1) (by omega)
    rw [h1] at h
    have := (nj_lt (a := g) (b := 0) (by omega) (by omega)).mp h
    omega
theorem losS_step {a0 a : Row} {k t g : Nat} (hl : losS a0 k (5 - (g + 1)) = (a, t)) (hg : g < 5) : losS a0 k (5 - g) = (ua a (10 + g) (a (10 + g) - min t (a (10 + g))), t - min t (a (10 + g))) := by
  have e : 5 - g = (5 - (g + 1)) + 1 := by omega
  have e2 : 4 - (5 - (g + 1)) = g := by omega
  rw [e, losS, hl, e2]
