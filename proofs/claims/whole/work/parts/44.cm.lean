/-! ===== the reference holds the abstract state ===== -/
def MT (σ : SG) : Prop := (∀ j, j < 7 → σ 47 j = nI ([101, 115, 119, 98, 104, 99, 100].getD j 0)) ∧ (∀ j, j < 6 → σ 48 j = nI ([101, 102, 99, 112, 104, 97].getD j 0)) ∧ (∀ j, j < 6 → σ 49 j = nI ([111, 110, 109, 116, 98, 115].getD j 0)) ∧ (∀ j, j < 2 → σ 50 j = nI ([120, 111].getD j 0)) ∧ ∀ j, j < 4 → σ 52 j = 0
def CM (σ : SG) (A : AS) : Prop := Ai A ∧ Mr σ 40 (Aa A) ∧ (At A = 1 → Mr σ 42 (Ak A)) ∧ σ 38 4 = nI (At A) ∧ (σ 38 15 = nI (Al A) ∧ ∀ j, j < Al A → σ 46 j = nI (Ac A j)) ∧ (σ 38 27 = nI (An A) ∧ ∀ j, j < An A → σ 53 j = nI (As' A j)) ∧ (∀ k, 1 ≤ k → k ≤ 6 → σ 39 k = Af A k) ∧ MT σ
abbrev in38 : Nat → Prop := fun k => 38 ≤ k
def FrN (σ τ : SG) : Prop := (∀ k, k ≠ 38 → k ≠ 41 → k ≠ 43 → k ≠ 44 → k ≠ 45 → k ≠ 51 → τ k = σ k) ∧ τ 38 4 = σ 38 4 ∧ τ 38 15 = σ 38 15 ∧ τ 38 27 = σ 38 27
theorem FrM.n {σ τ : SG} (h : FrM σ τ) : FrN σ τ := ⟨h.1, h.2.1, h.2.2.1, h.2.2.2.1⟩
theorem FrN.tr {σ τ ρ : SG} (h : FrN σ τ) (h' : FrN τ ρ) : FrN σ ρ := ⟨fun k a b c d e f => (h'.1 k a b c d e f).trans (h.1 k a b c d e f), h'.2.1.trans h.2.1, h'.2.2.1.trans h.2.2.1, h'.2.2.2.trans h.2.2.2⟩
theorem FrN.rf {σ : SG} : FrN σ σ := FrM.rf.n
theorem FrN.o {σ : SG} {j : Nat} {v : Int32} (hj : j ≠ 4 ∧ j ≠ 15 ∧ j ≠ 27) : FrN σ (up σ 38 j v) := ⟨fun k a _ _ _ _ _ => up_other a, up_elem (fun z => hj.1 z.symm), up_elem (fun z => hj.2.1 z.symm), up_elem (fun z => hj.2.2 z.symm)⟩
theorem FrN.i {σ τ : SG} (h : FrN σ τ) : Fr in38 σ τ := fun k hk => h.1 k (by simp only [in38] at hk; omega) (by simp only [in38] at hk; omega) (by simp only [in38] at hk; omega) (by simp only [in38] at hk; omega) (by simp only [in38] at hk; omega) (by simp only [in38] at hk; omega)
theorem CM.n {σ τ : SG} {A : AS} (h : CM σ A) (hf : FrN σ τ) : CM τ A := by
  obtain ⟨h0, h1, h2, h3, h4, h5, h6, h7⟩ := h
  obtain ⟨f1, f2, f3, f4⟩ := hf
  refine ⟨h0, h1.fr (f1 40 (by decide) (by decide) (by decide) (by decide) (by decide) (by decide)), fun hk => (h2 hk).fr (f1 42 (by decide) (by decide) (by decide) (by decide) (by decide) (by decide)), by rw [f2]; exact h3, by rw [f3, f1 46 (by decide) (by decide) (by decide) (by decide) (by decide) (by decide)]; exact h4, by rw [f4, f1 53 (by decide) (by decide) (by decide) (by decide) (by decide) (by decide)]; exact h5, by rw [f1 39 (by decide) (by decide) (by decide) (by decide) (by decide) (by decide)]; exact h6, ?_⟩
  unfold MT
  rw [f1 47 (by decide) (by decide) (by decide) (by decide) (by decide) (by decide), f1 48 (by decide) (by decide) (by decide) (by decide) (by decide) (by decide), f1 49 (by decide) (by decide) (by decide) (by decide) (by decide) (by decide), f1 50 (by decide) (by decide) (by decide) (by decide) (by decide) (by decide), f1 52 (by decide) (by decide) (by decide) (by decide) (by decide) (by decide)]
  exact h7
/-- one cell of its own has changed -/
theorem CM.cell {σ τ : SG} {A : AS} (h : CM σ A) {c : Nat} (hf : Fr (fun k => k = c) σ τ) (hc : c = 39 ∨ c = 40 ∨ c = 42 ∨ c = 46 ∨ c = 53) : (c ≠ 40 → Mr τ 40 (Aa A)) ∧ (c ≠ 42 → At A = 1 → Mr τ 42 (Ak A)) ∧ τ 38 = σ 38 ∧ (c ≠ 46 → τ 46 = σ 46) ∧ (c ≠ 53 → τ 53 = σ 53) ∧ (c ≠ 39 → τ 39 = σ 39) ∧ MT τ := by
  obtain ⟨h0, h1, h2, h3, h4, h5, h6, h7⟩ := h
  have f : ∀ k, k ≠ c → τ k = σ k := fun k hk => hf k hk
  refine ⟨fun z => h1.fr (f 40 (by omega)), fun z hk => (h2 hk).fr (f 42 (by omega)), f 38 (by omega), fun z => f 46 (by omega), fun z => f 53 (by omega), fun z => f 39 (by omega), ?_⟩
  unfold MT
  rw [f 47 (by omega), f 48 (by omega), f 49 (by omega), f 50 (by omega), f 52 (by omega)]
  exact h7
theorem CM.ref {σ τ : SG} {A : AS} (h : CM σ A) {k : Nat} (hk : 1 ≤ k ∧ k ≤ 6) (ht : τ = up σ 39 k (σ 39 k + 1)) : CM τ (sAf A k) := by
  obtain ⟨c1, c2, c3, c4, c5, -, c7⟩ := h.cell (τ := τ) (c := 39) (by rw [ht]; exact Fr.up (S := fun k => k = 39) rfl) (by decide)
  obtain ⟨h0, h1, h2, h3, h4, h5, h6, h7⟩ := h
  refine ⟨h0, c1 (by decide), c2 (by decide), by rw [c3]; exact h3, by rw [c3, c4 (by decide)]; exact h4, by rw [c3, c5 (by decide)]; exact h5, fun j j1 j6 => ?_, c7⟩
  rw [ht, up_at]
  show _ = if j = k then Af A j + 1 else Af A j
  by_cases z : j = k
  · rw [if_pos ⟨rfl, z⟩, if_pos z, z, h6 k hk.1 hk.2]
  · rw [if_neg (fun y => z y.2), if_neg z]; exact h6 j j1 j6
theorem CM.now {σ τ : SG} {A : AS} (h : CM σ A) {a' : Row} (hf : Fr (fun k => k = 40) σ τ) (hM : Mr τ 40 a') (hB : Bd a') (hD : D9 a') : CM τ (sAa A a') := by
  obtain ⟨-, c2, c3, c4, c5, c6, c7⟩ := h.cell (c := 40) hf (by decide)
  obtain ⟨h0, h1, h2, h3, h4, h5, h6, h7⟩ := h
  exact ⟨⟨⟨hB, hD⟩, h0.2⟩, hM, c2 (by decide), by rw [c3]; exact h3, by rw [c3, c4 (by decide)]; exact h4, by rw [c3, c5 (by decide)]; exact h5, by rw [c6 (by decide)]; exact h6, c7⟩
theorem fm_r {σ τ : SG} {A : AS} {k : Nat} {p : Int32 × AS} {r : Int32} (hC : CM σ A) (hk : 1 ≤ k ∧ k ≤ 6) (ht : τ = up σ 39 k (σ 39 k + 1)) (hp : p = rz A k) (hr : r = -nI k) : r = p.1 ∧ CM τ p.2 ∧ Fr in38 σ τ := by
  subst hp
  exact ⟨hr, hC.ref hk ht, by rw [ht]; exact Fr.up (S := in38) (by decide)⟩
theorem fm_t {σ τ : SG} {A : AS} {k : Nat} {p : Int32 × AS} {r x : Int32} (hC : CM σ A) (hk : 1 ≤ k ∧ k ≤ 6) (ht : τ = up σ 39 k (σ 39 k + 1)) (hp : p = tlr (rz A k)) (hx : x = -nI k) (hr : r = 1000000000 - x) : r = p.1 ∧ CM τ p.2 ∧ Fr in38 σ τ := by
  subst hp
  exact ⟨by rw [hr, hx], hC.ref hk ht, by rw [ht]; exact Fr.up (S := in38) (by decide)⟩
theorem fm_q {σ τ : SG} {A : AS} {p : Int32 × AS} {r v : Int32} (hC : CM σ A) (hF : FrN σ τ) (hp : p = (v, A)) (hr : r = v) : r = p.1 ∧ CM τ p.2 ∧ Fr in38 σ τ := by
  subst hp
  exact ⟨hr, hC.n hF, hF.i⟩
theorem oU_z {x lo hi : Int32} (h : ¬ 0 ≤ oU x lo hi) : ¬ oU x lo hi = 0 := fun q => h (by rw [q]; decide)
theorem oU_p {x lo hi : Int32} (h : 0 ≤ oU x lo hi) : ¬ (x < lo ∨ hi < x) := by
  unfold oU at h
  rintro (q | q)
  · rw [if_pos q] at h; exact absurd h (by decide)
  · by_cases h1 : x < lo
    · rw [if_pos h1] at h; exact absurd h (by decide)
    · rw [if_neg h1, if_pos q] at h; exact absurd h (by decide)
theorem noE {x y : Int32} (h : ¬ (x < 0 ∨ y ≤ x)) : 0 ≤ x ∧ x < y := ⟨Int32.not_lt.mp (fun z => h (Or.inl z)), Int32.not_le.mp (fun z => h (Or.inr z))⟩
theorem yeE {x y : Int32} (h : x < 0 ∨ y ≤ x) : ¬ (0 ≤ x ∧ x < y) := fun z => h.elim (fun q => Int32.not_lt.mpr z.1 q) (fun q => Int32.not_le.mpr z.2 q)
theorem noA {x y : Int32} (h : ¬ (x < 0 ∨ y < x)) : 0 ≤ x ∧ x ≤ y := ⟨Int32.not_lt.mp (fun z => h (Or.inl z)), Int32.not_lt.mp (fun z => h (Or.inr z))⟩
theorem yeA {x y : Int32} (h : x < 0 ∨ y < x) : ¬ (0 ≤ x ∧ x ≤ y) := fun z => h.elim (fun q => Int32.not_lt.mpr z.1 q) (fun q => Int32.not_lt.mpr z.2 q)
theorem a54 (g : Int32) : (0 ≤ g ∧ g ≤ 4) ↔ (0 ≤ g ∧ g < 5) := by
  constructor
  · rintro ⟨h1, h2⟩
    refine ⟨h1, ?_⟩
    rw [Int32.le_iff_toInt_le, show (4 : Int32).toInt = 4 by decide] at h2
    rw [Int32.lt_iff_toInt_lt, show (5 : Int32).toInt = 5 by decide]
    omega
  · rintro ⟨h1, h2⟩
    refine ⟨h1, ?_⟩
    rw [Int32.lt_iff_toInt_lt, show (5 : Int32).toInt = 5 by decide] at h2
    rw [Int32.le_iff_toInt_le, show (4 : Int32).toInt = 4 by decide]
    omega
