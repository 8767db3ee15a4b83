/-! ===== the reference's public methods: what stands behind them ===== -/
theorem wJ_neg {a : Row} (hB : ∀ j, a j ≤ 30000) {e g : Nat} (h : ¬ 0 ≤ wJ a e g) : wJ a e g = -1 := by
  by_cases z : eats a e g
  · exfalso
    apply h
    unfold wJ
    rw [if_pos z]
    exact Int32.not_lt.mp (nj_nn (by have := wNt_le hB e g; omega))
  · exact if_neg z
theorem nn_m1 {x : Int32} (h : 0 ≤ x) : ¬ x = -1 := fun q => by rw [q] at h; exact absurd h (by decide)
theorem mos_eq {k : Nat} (hk : k ≤ 5) : mosF k = nI (if k = 0 then 30 else if k = 5 then 5 else 9) := by
  have : k = 0 ∨ k = 1 ∨ k = 2 ∨ k = 3 ∨ k = 4 ∨ k = 5 := by omega
  rcases this with rfl | rfl | rfl | rfl | rfl | rfl <;> rfl
def FrX (σ τ : SG) : Prop := (∀ k, k ≠ 38 → k ≠ 40 → k ≠ 41 → k ≠ 43 → k ≠ 44 → k ≠ 45 → k ≠ 51 → τ k = σ k) ∧ τ 38 4 = σ 38 4 ∧ τ 38 15 = σ 38 15 ∧ τ 38 27 = σ 38 27
theorem FrX.tr {σ τ ρ : SG} (h : FrX σ τ) (h' : FrX τ ρ) : FrX σ ρ := ⟨fun k a b c d e f g => (h'.1 k a b c d e f g).trans (h.1 k a b c d e f g), h'.2.1.trans h.2.1, h'.2.2.1.trans h.2.2.1, h'.2.2.2.trans h.2.2.2⟩
theorem FrN.x {σ τ : SG} (h : FrN σ τ) : FrX σ τ := ⟨fun k a _ c d e f g => h.1 k a c d e f g, h.2⟩
theorem FrX.y {σ τ : SG} (h : FrY 40 σ τ) : FrX σ τ := ⟨fun k a b _ _ d _ _ => h.1 k b a d, h.2 4 (by omega), h.2 15 (by omega), h.2 27 (by omega)⟩
theorem FrX.i {σ τ : SG} (h : FrX σ τ) : Fr in38 σ τ := fun k hk => h.1 k (by simp only [in38] at hk; omega) (by simp only [in38] at hk; omega) (by simp only [in38] at hk; omega) (by simp only [in38] at hk; omega) (by simp only [in38] at hk; omega) (by simp only [in38] at hk; omega) (by simp only [in38] at hk; omega)
theorem CM.nw {σ τ : SG} {A : AS} (h : CM σ A) {a' : Row} (hf : FrX σ τ) (hM : Mr τ 40 a') (hB : Bd a') (hD : D9 a') : CM τ (sAa A a') := by
  obtain ⟨h0, h1, h2, h3, h4, h5, h6, h7⟩ := h
  obtain ⟨f1, f2, f3, f4⟩ := hf
  have g : ∀ k, (k = 39 ∨ k = 42 ∨ k = 46 ∨ k = 47 ∨ k = 48 ∨ k = 49 ∨ k = 50 ∨ k = 52 ∨ k = 53) → τ k = σ k := fun k hk => f1 k (by omega) (by omega) (by omega) (by omega) (by omega) (by omega) (by omega)
  refine ⟨⟨⟨hB, hD⟩, h0.2⟩, hM, fun hk => (h2 hk).fr (g 42 (by decide)), by rw [f2]; exact h3, by rw [f3, g 46 (by decide)]; exact h4, by rw [f4, g 53 (by decide)]; exact h5, by rw [g 39 (by decide)]; exact h6, ?_⟩
  unfold MT
  rw [g 47 (by decide), g 48 (by decide), g 49 (by decide), g 50 (by decide), g 52 (by decide)]
  exact h7
theorem fm_h {σ τ : SG} {A : AS} {a' : Row} {p : Int32 × AS} {r v : Int32} (hC : CM σ A) (hM : Mr τ 40 a') (hB : Bd a') (hD : D9 a') (hF : FrX σ τ) (hp : p = (v, sAa A a')) (hr : r = v) : r = p.1 ∧ CM τ p.2 ∧ Fr in38 σ τ := by
  subst hp
  exact ⟨hr, hC.nw hF hM hB hD, hF.i⟩
theorem totS_of {σ : SG} {a : Row} {n j : Nat} (hT : Sm σ (nV a 0 n) (nD a 0 n).2.2.2.1 (nD a 0 n).2.2.2.2.1 (nD a 0 n).2.2.2.2.2.1 (nD a 0 n).2.2.2.2.2.2) (hj : j ≤ 5) : σ 45 j = totV a n j := by
  obtain ⟨h0, h1, h2, h3, h4, h5⟩ := hT
  have : j = 0 ∨ j = 1 ∨ j = 2 ∨ j = 3 ∨ j = 4 ∨ j = 5 := by omega
  rcases this with rfl | rfl | rfl | rfl | rfl | rfl
  · exact h0
  · exact h1
  · exact h2
  · exact h3
  · exact h4
  · exact h5
/-! the reference's choices -/
theorem stC_y {p : Int32 × Int32} {x : Nat} {v : Int32} (h : p.1 = -9 ∨ p.2 < v) : stC p x v = (nI x, v) := if_pos h
theorem stC_n {p : Int32 × Int32} {x : Nat} {v : Int32} (h : ¬ (p.1 = -9 ∨ p.2 < v)) : stC p x v = p := if_neg h
theorem chF_some {f : Nat → Int32} {ok : Nat → Bool} : ∀ {k : Nat} {x : Int32}, x = (chF f ok k).1 → ¬ x = -9 → ∃ j, j < k ∧ ok j = true ∧ chF f ok k = (nI j, f j) := by
  intro k
  induction k with
  | zero => intro x hx h; exact absurd hx h
  | succ k ih =>
    intro x hx h
    by_cases ho : ok k = true
    · rw [chF_t ho] at hx ⊢
      by_cases hs : (chF f ok k).1 = -9 ∨ (chF f ok k).2 < f k
      · rw [stC_y hs]; exact ⟨k, by omega, ho, rfl⟩
      · rw [stC_n hs] at hx ⊢
        obtain ⟨j, h1, h2, h3⟩ := ih hx h
        exact ⟨j, by omega, h2, h3⟩
    · rw [chF_f (by simpa using ho)] at hx ⊢
      obtain ⟨j, h1, h2, h3⟩ := ih hx h
      exact ⟨j, by omega, h2, h3⟩
theorem chF_all {f : Nat → Int32} : ∀ {k : Nat}, 0 < k → k ≤ 1000 → ¬ (chF f (fun _ => true) k).1 = -9 := by
  intro k
  induction k with
  | zero => intro h; exact absurd h (Nat.not_lt_zero _)
  | succ k ih =>
    intro _ h9 hx
    rw [chF_t rfl] at hx
    by_cases hs : (chF f (fun _ => true) k).1 = -9 ∨ (chF f (fun _ => true) k).2 < f k
    · rw [stC_y hs] at hx
      have h2 := congrArg Int32.toInt (show nI k = -9 from hx)
      rw [nj_toInt (by omega), show (-9 : Int32).toInt = -9 by decide] at h2
      omega
    · rw [stC_n hs] at hx
      exact hs (Or.inl hx)
/-- found and most, as out, less, best look for them -/
def RC (f : Nat → Int32) (k : Nat) (x y : Int32) : Prop := (k = 0 → x = 0) ∧ (0 < k → x = (chF f (fun _ => true) k).1 ∧ y = (chF f (fun _ => true) k).2)
theorem RC.z {f : Nat → Int32} {y : Int32} : RC f 0 0 y := ⟨fun _ => rfl, fun h => absurd h (Nat.not_lt_zero _)⟩
theorem RC.take {f : Nat → Int32} {k : Nat} {x y : Int32} (h : RC f k x y) (hk : k = 0 ∨ y < f k) : RC f (k + 1) (nI k) (f k) := by
  refine ⟨fun z => absurd z (Nat.succ_ne_zero k), fun _ => ?_⟩
  have hs : (chF f (fun _ => true) k).1 = -9 ∨ (chF f (fun _ => true) k).2 < f k := by
    by_cases z : k = 0
    · subst z; exact Or.inl rfl
    · exact Or.inr ((h.2 (by omega)).2 ▸ (hk.resolve_left z))
  rw [chF_t rfl, stC_y hs]
  exact ⟨rfl, rfl⟩
theorem RC.keep {f : Nat → Int32} {k : Nat} {x y : Int32} (h : RC f k x y) (h0 : ¬ k = 0) (h9 : k ≤ 1000) (hk : f k ≤ y) : RC f (k + 1) x y := by
  refine ⟨fun z => absurd z (Nat.succ_ne_zero k), fun _ => ?_⟩
  obtain ⟨h1, h2⟩ := h.2 (by omega)
  have hs : ¬ ((chF f (fun _ => true) k).1 = -9 ∨ (chF f (fun _ => true) k).2 < f k) := fun z => z.elim (chF_all (by omega) h9) (fun q => Int32.not_lt.mpr hk (h2 ▸ q))
  rw [chF_t rfl, stC_n hs]
  exact ⟨h1, h2⟩
theorem RC.fin {f : Nat → Int32} {k : Nat} {x y : Int32} (h : RC f (k + 1) x y) : x = (chF f (fun _ => true) (k + 1)).1 ∧ y = (chF f (fun _ => true) (k + 1)).2 := h.2 (Nat.succ_pos k)
/-! throwing the oldest one by one -/
theorem los_5 (a : Row) (k : Nat) (q : Nat) (hq : q ≤ 4) : (losS a k 5).1 (10 + q) = a (10 + q) - (k - (if q < 4 then a 14 else 0) - (if q < 3 then a 13 else 0) - (if q < 2 then a 12 else 0) - (if q < 1 then a 11 else 0)) := by
  have : q = 0 ∨ q = 1 ∨ q = 2 ∨ q = 3 ∨ q = 4 := by omega
  rcases this with rfl | rfl | rfl | rfl | rfl <;> simp [losS, ua_at] <;> omega
theorem los_0 (a : Row) : (losS a 0 5).1 = a := by
  funext j
  by_cases h : j < 10 ∨ 15 ≤ j
  · exact losS_at a 0 5 j h
  · obtain ⟨q, hq, rfl⟩ : ∃ q, q ≤ 4 ∧ j = 10 + q := ⟨j - 10, by omega, by omega⟩
    rw [los_5 a 0 q hq]
    omega
theorem los_step {a : Row} {i g : Nat} (hg : g ≤ 4) (hz : ∀ q, g < q → q ≤ 4 → (losS a i 5).1 (10 + q) = 0) (hn : ¬ (losS a i 5).1 (10 + g) = 0) : ua (losS a i 5).1 (10 + g) ((losS a i 5).1 (10 + g) - 1) = (losS a (i + 1) 5).1 := by
  funext j
  rw [ua_at]
  by_cases h : j < 10 ∨ 15 ≤ j
  · rw [if_neg (by omega), losS_at a i 5 j h, losS_at a (i + 1) 5 j h]
  · obtain ⟨q, hq, rfl⟩ : ∃ q, q ≤ 4 ∧ j = 10 + q := ⟨j - 10, by omega, by omega⟩
    have e0 := los_5 a i 0 (by omega)
    have e1 := los_5 a i 1 (by omega)
    have e2 := los_5 a i 2 (by omega)
    have e3 := los_5 a i 3 (by omega)
    have e4 := los_5 a i 4 (by omega)
    simp at e0 e1 e2 e3 e4
    have z1 := hz 1
    have z2 := hz 2
    have z3 := hz 3
    have z4 := hz 4
    rw [los_5 a (i + 1) q hq]
    have c1 : g = 0 ∨ g = 1 ∨ g = 2 ∨ g = 3 ∨ g = 4 := by omega
    have c2 : q = 0 ∨ q = 1 ∨ q = 2 ∨ q = 3 ∨ q = 4 := by omega
    rcases c1 with rfl | rfl | rfl | rfl | rfl <;> rcases c2 with rfl | rfl | rfl | rfl | rfl <;> simp at * <;> omega
theorem los_pos {a : Row} {i : Nat} (hi : i < sumN (fun k => a (10 + k)) 5) (hz : ∀ q, 0 < q → q ≤ 4 → (losS a i 5).1 (10 + q) = 0) : ¬ (losS a i 5).1 (10 + 0) = 0 := by
  have hi' : i < 0 + a (10 + 0) + a (10 + 1) + a (10 + 2) + a (10 + 3) + a (10 + 4) := hi
  have e0 := los_5 a i 0 (by omega)
  have e1 := los_5 a i 1 (by omega)
  have e2 := los_5 a i 2 (by omega)
  have e3 := los_5 a i 3 (by omega)
  have e4 := los_5 a i 4 (by omega)
  simp at e0 e1 e2 e3 e4
  have z1 := hz 1 (by omega) (by omega)
  have z2 := hz 2 (by omega) (by omega)
  have z3 := hz 3 (by omega) (by omega)
  have z4 := hz 4 (by omega) (by omega)
  simp at *
  omega
