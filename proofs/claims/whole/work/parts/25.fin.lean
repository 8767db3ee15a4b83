theorem nj_of2 {x : Int32} {m : Nat} (h : 0 ≤ x ∧ x < nI m) (hm : m < 2 ^ 31) : ∃ k : Nat, k < m ∧ x = nI k := by
  obtain ⟨h0, h1⟩ := h
  rw [Int32.le_iff_toInt_le, Int32.toInt_zero] at h0
  rw [Int32.lt_iff_toInt_lt, nj_toInt hm] at h1
  refine ⟨x.toInt.toNat, by omega, ?_⟩
  rw [← Int32.toInt_inj, nj_toInt (by omega)]; omega
theorem nj_of3 {x : Int32} {m : Nat} (h : 0 ≤ x ∧ x ≤ nI m) (hm : m < 2 ^ 31 := by decide) : ∃ k : Nat, k ≤ m ∧ x = nI k := by
  obtain ⟨h0, h1⟩ := h
  rw [Int32.le_iff_toInt_le, Int32.toInt_zero] at h0
  rw [Int32.le_iff_toInt_le, nj_toInt hm] at h1
  refine ⟨x.toInt.toNat, by omega, ?_⟩
  rw [← Int32.toInt_inj, nj_toInt (by omega)]; omega
theorem nj_of4 {x : Int32} {m : Nat} (h : ¬ (x < 0 ∨ nI m < x)) (hm : m < 2 ^ 31 := by decide) : ∃ k : Nat, k ≤ m ∧ x = nI k :=
  nj_of (fun z => h (Or.inl z)) (fun z => h (Or.inr z)) hm
theorem fin_r {σ τ : SG} {A : AS} {k : Nat} {p : Int32 × AS} {r : Int32} (hC : CX σ A) (hk : 1 ≤ k ∧ k ≤ 6) (ht : τ = up σ 35 k (σ 35 k + 1)) (hp : p = rz A k) (hr : r = -nI k) : r = p.1 ∧ CX τ p.2 ∧ Fr in37 σ τ := by
  subst hp
  exact ⟨hr, hC.ref hk ht, by rw [ht]; exact Fr.up (S := in37) (by decide)⟩
theorem fin_t {σ τ : SG} {A : AS} {k : Nat} {p : Int32 × AS} {r x : Int32} (hC : CX σ A) (hk : 1 ≤ k ∧ k ≤ 6) (ht : τ = up σ 35 k (σ 35 k + 1)) (hp : p = tlr (rz A k)) (hx : x = -nI k) (hr : r = 1000000000 - x) : r = p.1 ∧ CX τ p.2 ∧ Fr in37 σ τ := by
  subst hp
  exact ⟨by rw [hr, hx], hC.ref hk ht, by rw [ht]; exact Fr.up (S := in37) (by decide)⟩
theorem fin_q {σ τ : SG} {A : AS} {p : Int32 × AS} {r v : Int32} (hC : CX σ A) (hF : Fr inQ σ τ) (hp : p = (v, A)) (hr : r = v) : r = p.1 ∧ CX τ p.2 ∧ Fr in37 σ τ := by
  subst hp
  exact ⟨hr, hC.sc hF, hF.mono (fun k z => by rcases z with z | z | z <;> simp only [in37] <;> omega)⟩
theorem fin_h {σ τ : SG} {A : AS} {a' : Row} {p : Int32 × AS} {r v : Int32} (hC : CX σ A) (hR : HR τ a') (hF : Fr (fun k => (1 ≤ k ∧ k ≤ 9) ∨ inQ k) σ τ) (hp : p = (v, sAa A a')) (hr : r = v) : r = p.1 ∧ CX τ p.2 ∧ Fr in37 σ τ := by
  subst hp
  exact ⟨hr, hC.her (fun k z1 z2 => hF k (fun z => z.elim z1 z2)) hR, hF.mono (fun k z => by rcases z with z | z | z | z <;> simp only [in37] <;> omega)⟩
theorem Bd.uo {a : Row} {d v : Nat} (h : Bd a) (hd : d < 7) (hv : v ≤ 1) : Bd (ua a (20 + d) v) := by
  obtain ⟨h0, b0, b1, b2, b3, b4, b5, b6, b7, bs, bp, be⟩ := h
  refine ⟨fun j => by have := h0 j; simp only [ua_at]; split <;> omega, ?_, ?_, ?_, ?_, ?_, ?_, ?_, ?_, fun k hk => ?_, fun k hk => ?_, fun e he => ?_⟩ <;> simp only [ua_at]
  all_goals first | (rw [if_neg (by omega)]; assumption) | skip
  · rw [if_neg (by omega)]; exact bs k hk
  · have := bp k hk; split <;> omega
  · rw [if_neg (by omega), if_neg (by omega), if_neg (by omega), if_neg (by omega)]; exact be e he
theorem mos_nat {s : Nat} (hs : s < 6) : ∃ M : Nat, mosF s = nI M ∧ M ≤ 30 := by
  have : s = 0 ∨ s = 1 ∨ s = 2 ∨ s = 3 ∨ s = 4 ∨ s = 5 := by omega
  rcases this with rfl | rfl | rfl | rfl | rfl | rfl
  · exact ⟨30, rfl, by omega⟩
  · exact ⟨9, rfl, by omega⟩
  · exact ⟨9, rfl, by omega⟩
  · exact ⟨9, rfl, by omega⟩
  · exact ⟨9, rfl, by omega⟩
  · exact ⟨5, rfl, by omega⟩
theorem nn_nj {n : Nat} (h : n < 2 ^ 31) : nn (nI n) = n := nj_nat h
