/-! BOTTLES -/
theorem bw_eq6 {s d : Nat} (hs : s < 64) (hd : d < 6) : (nI s >>> (nI d &&& 31)) &&& 1 = nI (bW s d) := by
  have key : ∀ (i : Fin 64) (j : Fin 6), (nI i.val >>> (nI j.val &&& 31)) &&& 1 = nI (bW i.val j.val) := by decide +kernel
  exact key ⟨s, hs⟩ ⟨d, hd⟩
theorem shl6 {d : Nat} (h : d < 6) : (1 : Int32) <<< (nI d &&& 31) = nI (2 ^ d) := by
  have key : ∀ i : Fin 6, (1 : Int32) <<< (nI i.val &&& 31) = nI (2 ^ i.val) := by decide +kernel
  exact key ⟨d, h⟩
theorem bw_add {s d : Nat} (hs : s < 64) (hd : d < 6) (h : bW s d = 0) : s + 2 ^ d < 64 ∧ bW (s + 2 ^ d) d = 1 ∧ nI s ||| nI (2 ^ d) = nI (s + 2 ^ d) := by
  have key : ∀ (i : Fin 64) (j : Fin 6), bW i.val j.val = 0 → i.val + 2 ^ j.val < 64 ∧ bW (i.val + 2 ^ j.val) j.val = 1 ∧ nI i.val ||| nI (2 ^ j.val) = nI (i.val + 2 ^ j.val) := by decide +kernel
  exact key ⟨s, hs⟩ ⟨d, hd⟩ h
theorem bw_sub {s d : Nat} (hs : s < 64) (hd : d < 6) (h : bW s d = 1) : 2 ^ d ≤ s ∧ bW (s - 2 ^ d) d = 0 := by
  have key : ∀ (i : Fin 64) (j : Fin 6), bW i.val j.val = 1 → 2 ^ j.val ≤ i.val ∧ bW (i.val - 2 ^ j.val) j.val = 0 := by decide +kernel
  exact key ⟨s, hs⟩ ⟨d, hd⟩ h
theorem two_b {d : Nat} (h : d < 6) : 1 ≤ 2 ^ d ∧ 2 ^ d ≤ 32 := by
  have key : ∀ i : Fin 6, 1 ≤ 2 ^ i.val ∧ 2 ^ i.val ≤ 32 := by decide
  exact key ⟨d, h⟩
def EB (n : Nat) (qs : Nat → Nat) : ET := fun i s s1 w => ∃ d, qs (3 * i) ≤ d ∧ d ≤ qs (3 * i + 1) ∧ d < n ∧ s < 64 ∧ bW s d = 0 ∧ s1 = s + 2 ^ d ∧ w = qs (3 * i + 2)
theorem Rb_64 {n : Nat} {qs : Nat → Nat} (h6 : n ≤ 6) : ∀ i s v, Rw (EB n qs) i s v → s < 64 := by
  intro i
  induction i with
  | zero => rintro s v ⟨h1, -⟩; omega
  | succ i ih =>
    intro s v h
    rcases h with h | ⟨s0, u, w, ⟨d, e1, e2, e3, e4, e5, e6, -⟩, -, -⟩
    · exact ih s v h
    · rw [e6]; exact (bw_add e4 (by omega) e5).1
theorem Rb_le {n : Nat} {qs : Nat → Nat} {N : Nat} (hq : ∀ j, j < 3 * N → qs j ≤ 99) : ∀ i s v, i ≤ N → Rw (EB n qs) i s v → v ≤ 99 * i := by
  intro i
  induction i with
  | zero => rintro s v - ⟨-, h1⟩; omega
  | succ i ih =>
    intro s v hi h
    rcases h with h | ⟨s0, u, w, ⟨d, e1, e2, e3, e4, e5, e6, e7⟩, h2, h3⟩
    · have := ih s v (by omega) h; omega
    · have := ih s0 u (by omega) h2
      have := hq (3 * i + 2) (by omega)
      omega
theorem Tb_le {n : Nat} {qs : Nat → Nat} {N : Nat} (hq : ∀ j, j < 3 * N → qs j ≤ 99) : ∀ q i s v, i + q ≤ N → Tw (EB n qs) q i s v → v ≤ 99 * q := by
  intro q
  induction q with
  | zero => intro i s v _ h; have h' : v = 0 := h; omega
  | succ q ih =>
    intro i s v hi h
    rcases h with h | ⟨s1, u, w, ⟨d, e1, e2, e3, e4, e5, e6, e7⟩, h2, h3⟩
    · have := ih _ s v (by omega) h; omega
    · have := ih _ s1 u (by omega) h2
      have := hq (3 * i + 2) (by omega)
      omega
/-- the days below d tried -/
def Bp (n : Nat) (qs : Nat → Nat) (i s d v : Nat) : Prop := Rw (EB n qs) i s v ∨ ∃ d' u, qs (3 * i) ≤ d' ∧ d' < d ∧ d' ≤ qs (3 * i + 1) ∧ d' < n ∧ bW s d' = 1 ∧ Rw (EB n qs) i (s - 2 ^ d') u ∧ v = u + qs (3 * i + 2)
theorem Bp_0 (n : Nat) (qs : Nat → Nat) (i s v : Nat) : Bp n qs i s (qs (3 * i)) v ↔ Rw (EB n qs) i s v := by
  constructor
  · rintro (h | ⟨d', u, h1, h2, -⟩)
    · exact h
    · omega
  · exact Or.inl
theorem Bp_n {n : Nat} {qs : Nat → Nat} (h6 : n ≤ 6) {s : Nat} (hs : s < 64) (i : Nat) {d : Nat} (hd : qs (3 * i + 1) < d ∨ n ≤ d) (v : Nat) : Bp n qs i s d v ↔ Rw (EB n qs) (i + 1) s v := by
  constructor
  · rintro (h | ⟨d', u, h1, h2, h3, h4, h5, h7, h8⟩)
    · exact Or.inl h
    · obtain ⟨k1, k2⟩ := bw_sub hs (by omega) h5
      exact Or.inr ⟨s - 2 ^ d', u, _, ⟨d', h1, h3, h4, Nat.lt_of_le_of_lt (Nat.sub_le _ _) hs, k2, (Nat.sub_add_cancel k1).symm, rfl⟩, h7, h8⟩
  · rintro (h | ⟨s0, u, w, ⟨d', e1, e2, e3, e4, e5, e6, e7⟩, h2, h3⟩)
    · exact Or.inl h
    · obtain ⟨k1, k2, -⟩ := bw_add e4 (by omega) e5
      refine Or.inr ⟨d', u, e1, by omega, e2, e3, by rw [e6]; exact k2, ?_, by rw [h3, e7]⟩
      rw [e6, Nat.add_sub_cancel]; exact h2
theorem Bp_s {n : Nat} {qs : Nat → Nat} {i d : Nat} (h1 : qs (3 * i) ≤ d) (h2 : d ≤ qs (3 * i + 1)) (h3 : d < n) (s v : Nat) : Bp n qs i s (d + 1) v ↔ Bp n qs i s d v ∨ (bW s d = 1 ∧ ∃ u, Rw (EB n qs) i (s - 2 ^ d) u ∧ v = u + qs (3 * i + 2)) := by
  constructor
  · rintro (h | ⟨d', u, k1, k2, k3, k4, k5, k6, k7⟩)
    · exact Or.inl (Or.inl h)
    · by_cases z : d' = d
      · subst z; exact Or.inr ⟨k5, u, k6, k7⟩
      · exact Or.inl (Or.inr ⟨d', u, k1, by omega, k3, k4, k5, k6, k7⟩)
  · rintro ((h | ⟨d', u, k1, k2, k3, k4, k5, k6, k7⟩) | ⟨k5, u, k6, k7⟩)
    · exact Or.inl h
    · exact Or.inr ⟨d', u, k1, by omega, k3, k4, k5, k6, k7⟩
    · exact Or.inr ⟨d, u, h1, by omega, h2, h3, k5, k6, k7⟩
theorem Bp_no {n : Nat} {qs : Nat → Nat} {i d : Nat} (h1 : qs (3 * i) ≤ d) (h2 : d ≤ qs (3 * i + 1)) (h3 : d < n) {s : Nat} (h : ¬ (bW s d = 1 ∧ ∃ u, Rw (EB n qs) i (s - 2 ^ d) u)) (v : Nat) : Bp n qs i s (d + 1) v ↔ Bp n qs i s d v := by
  rw [Bp_s h1 h2 h3]
  exact ⟨fun z => z.elim id (fun ⟨z1, u, z3, _⟩ => absurd ⟨z1, u, z3⟩ h), Or.inl⟩
theorem Bp_le {n : Nat} {qs : Nat → Nat} {N : Nat} (hq : ∀ j, j < 3 * N → qs j ≤ 99) {i s d v : Nat} (hi : i < N) (hN : N ≤ 6) (h : Bp n qs i s d v) : v ≤ 1000 := by
  rcases h with h | ⟨d', u, h1, h2, h3, h4, h5, h7, h8⟩
  · have := Rb_le hq _ _ _ (by omega) h; omega
  · have := Rb_le hq _ _ _ (by omega) h7
    have := hq (3 * i + 2) (by omega)
    omega
theorem Rb1_0 (n : Nat) (qs : Nat → Nat) (h6 : n ≤ 6) (i v : Nat) : Rw (EB n qs) (i + 1) 0 v ↔ Rw (EB n qs) i 0 v := by
  constructor
  · rintro (h | ⟨s0, u, w, ⟨d, e1, e2, e3, e4, e5, e6, e7⟩, h2, h3⟩)
    · exact h
    · have := two_b (d := d) (by omega); omega
  · exact Or.inl
/-- the reference: the days below d tried -/
def Bt (n : Nat) (qs : Nat → Nat) (q i s d v : Nat) : Prop := Tw (EB n qs) q (i + 1) s v ∨ ∃ d' u, qs (3 * i) ≤ d' ∧ d' < d ∧ d' ≤ qs (3 * i + 1) ∧ d' < n ∧ bW s d' = 0 ∧ Tw (EB n qs) q (i + 1) (s + 2 ^ d') u ∧ v = u + qs (3 * i + 2)
theorem Bt_0 (n : Nat) (qs : Nat → Nat) (q i s v : Nat) : Bt n qs q i s (qs (3 * i)) v ↔ Tw (EB n qs) q (i + 1) s v := by
  constructor
  · rintro (h | ⟨d', u, h1, h2, -⟩)
    · exact h
    · omega
  · exact Or.inl
theorem Bt_n {n : Nat} {qs : Nat → Nat} {s : Nat} (hs : s < 64) (q i : Nat) {d : Nat} (hd : qs (3 * i + 1) < d ∨ n ≤ d) (v : Nat) : Tw (EB n qs) (q + 1) i s v ↔ Bt n qs q i s d v := by
  constructor
  · rintro (h | ⟨s1, u, w, ⟨d', e1, e2, e3, e4, e5, e6, e7⟩, h2, h3⟩)
    · exact Or.inl h
    · exact Or.inr ⟨d', u, e1, by omega, e2, e3, e5, by rw [← e6]; exact h2, by rw [h3, e7]⟩
  · rintro (h | ⟨d', u, h1, h2, h3, h4, h5, h7, h8⟩)
    · exact Or.inl h
    · exact Or.inr ⟨_, u, _, ⟨d', h1, h3, h4, hs, h5, rfl, rfl⟩, h7, h8⟩
theorem Bt_s {n : Nat} {qs : Nat → Nat} {q i d : Nat} (h1 : qs (3 * i) ≤ d) (h2 : d ≤ qs (3 * i + 1)) (h3 : d < n) (s v : Nat) : Bt n qs q i s (d + 1) v ↔ Bt n qs q i s d v ∨ (bW s d = 0 ∧ ∃ u, Tw (EB n qs) q (i + 1) (s + 2 ^ d) u ∧ v = u + qs (3 * i + 2)) := by
  constructor
  · rintro (h | ⟨d', u, k1, k2, k3, k4, k5, k6, k7⟩)
    · exact Or.inl (Or.inl h)
    · by_cases z : d' = d
      · subst z; exact Or.inr ⟨k5, u, k6, k7⟩
      · exact Or.inl (Or.inr ⟨d', u, k1, by omega, k3, k4, k5, k6, k7⟩)
  · rintro ((h | ⟨d', u, k1, k2, k3, k4, k5, k6, k7⟩) | ⟨k5, u, k6, k7⟩)
    · exact Or.inl h
    · exact Or.inr ⟨d', u, k1, by omega, k3, k4, k5, k6, k7⟩
    · exact Or.inr ⟨d, u, h1, by omega, h2, h3, k5, k6, k7⟩
theorem Bt_no {n : Nat} {qs : Nat → Nat} {q i d : Nat} (h1 : qs (3 * i) ≤ d) (h2 : d ≤ qs (3 * i + 1)) (h3 : d < n) {s : Nat} (h : ¬ bW s d = 0) (v : Nat) : Bt n qs q i s (d + 1) v ↔ Bt n qs q i s d v := by
  rw [Bt_s h1 h2 h3]
  exact ⟨fun z => z.elim id (fun ⟨z1, _⟩ => absurd z1 h), Or.inl⟩
theorem Bt_yes {n : Nat} {qs : Nat → Nat} {q i d : Nat} (h1 : qs (3 * i) ≤ d) (h2 : d ≤ qs (3 * i + 1)) (h3 : d < n) {s : Nat} (h : bW s d = 0) (v : Nat) : Bt n qs q i s (d + 1) v ↔ Bt n qs q i s d v ∨ ∃ u, Tw (EB n qs) q (i + 1) (s + 2 ^ d) u ∧ v = u + qs (3 * i + 2) := by
  rw [Bt_s h1 h2 h3]
  exact or_congr Iff.rfl ⟨fun z => z.2, fun z => ⟨h, z⟩⟩
theorem Bt_le {n : Nat} {qs : Nat → Nat} {N : Nat} (hq : ∀ j, j < 3 * N → qs j ≤ 99) {q i s d v : Nat} (hi : i + 1 + q ≤ N) (hN : N ≤ 6) (h : Bt n qs q i s d v) : v ≤ 1000 := by
  rcases h with h | ⟨d', u, h1, h2, h3, h4, h5, h7, h8⟩
  · have := Tb_le hq _ _ _ _ (by omega) h; omega
  · have := Tb_le hq _ _ _ _ (by omega) h7
    have := hq (3 * i + 2) (by omega)
    omega
noncomputable def spBottles (A : AS) (x : Int32) : Int32 × AS := if x < 1 ∨ 6 < x then rz A (kO x 1) else if ¬ (An A % 3 = 0 ∧ An A ≤ 18) then rz A 3 else (nI (mxOf (Tw (EB (nn x) (As' A)) (An A / 3) 0 0)), A)
theorem bo_all {n : Nat} {qs : Nat → Nat} (h6 : n ≤ 6) {N m : Nat} (h : Mx (fun v => ∃ s, s < 64 ∧ Rw (EB n qs) N s v) m) : mxOf (Tw (EB n qs) N 0 0) = m :=
  mxOf_eq (h.iff (fun v => (way_all (EB n qs) N v).trans ⟨fun ⟨s, z⟩ => ⟨s, Rb_64 h6 _ _ _ z, z⟩, fun ⟨s, _, z⟩ => ⟨s, z⟩⟩))
