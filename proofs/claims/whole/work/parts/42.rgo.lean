theorem hun_nD (a : Row) (fw : Nat) : ∀ k, hun (nD a fw k).1 = hun a
  | 0 => rfl
  | k + 1 => by
    rw [← hun_nD a fw k]
    funext e
    exact dyR_at _ _ _ _ (by omega) (by omega)
theorem nD_0 (a : Row) (fw : Nat) : ∀ k j, (j < 10 ∨ 15 ≤ j) → j ≠ 1 → (nD a fw k).1 j = a j
  | 0, _, _, _ => rfl
  | k + 1, j, hj, h1 => by
    show dyR _ _ _ j = _
    rw [dyR_at _ _ _ _ hj h1]
    exact nD_0 a fw k j hj h1
theorem dy_cl {p : Row} (h : p (20 + p 1 % 7) = 0) (hu : Nat → Nat) (f : Nat) : dyE hu p 0 = dyE hu p f ∧ shV p 0 = shV p f ∧ shB p 0 = shB p f := by
  have h1 : ∀ f, sc1 p f = 0 := fun f => if_pos h
  have h2 : ∀ f, sc2 p f = 0 := fun f => if_pos h
  refine ⟨?_, ?_, ?_⟩
  · unfold dyE shR; rw [h1, h1, h2, h2]
  · unfold shV; rw [h1, h1, h2, h2]
  · unfold shB; rw [h1, h1, h2, h2]
/-- the sums -/
def Sm (σ : SG) (v : Int32) (l : List Nat) (th la bo : Nat) : Prop := σ 45 0 = v ∧ σ 45 1 = nI l.length ∧ σ 45 2 = nI (l.count 0) ∧ σ 45 3 = nI th ∧ σ 45 4 = nI la ∧ σ 45 5 = nI bo
/-- the reference's scratch -/
def FrM (σ τ : SG) : Prop := (∀ k, k ≠ 38 → k ≠ 41 → k ≠ 43 → k ≠ 44 → k ≠ 45 → k ≠ 51 → τ k = σ k) ∧ τ 38 4 = σ 38 4 ∧ τ 38 15 = σ 38 15 ∧ τ 38 27 = σ 38 27 ∧ τ 38 24 = σ 38 24
theorem FrM.rf {σ : SG} : FrM σ σ := ⟨fun _ _ _ _ _ _ _ => rfl, rfl, rfl, rfl, rfl⟩
theorem FrM.tr {σ τ ρ : SG} (h : FrM σ τ) (h' : FrM τ ρ) : FrM σ ρ := ⟨fun k a b c d e f => (h'.1 k a b c d e f).trans (h.1 k a b c d e f), h'.2.1.trans h.2.1, h'.2.2.1.trans h.2.2.1, h'.2.2.2.1.trans h.2.2.2.1, h'.2.2.2.2.trans h.2.2.2.2⟩
theorem FrM.y {σ τ : SG} (h : FrY 41 σ τ) : FrM σ τ := ⟨fun k a b _ d _ _ => h.1 k b a d, h.2 4 (by omega), h.2 15 (by omega), h.2 27 (by omega), h.2 24 (by omega)⟩
theorem FrM.f {σ τ : SG} {c : Nat} (h : Fr (fun k => k = c) σ τ) (hc : c = 41 ∨ c = 43 ∨ c = 44 ∨ c = 45 ∨ c = 51) : FrM σ τ := ⟨fun k _ _ _ _ _ _ => h k (by show ¬ k = c; omega), by rw [h 38 (by show ¬ 38 = c; omega)], by rw [h 38 (by show ¬ 38 = c; omega)], by rw [h 38 (by show ¬ 38 = c; omega)], by rw [h 38 (by show ¬ 38 = c; omega)]⟩
theorem FrM.u {σ : SG} {c j : Nat} {v : Int32} (hc : c = 41 ∨ c = 43 ∨ c = 44 ∨ c = 45 ∨ c = 51) : FrM σ (up σ c j v) := FrM.f (c := c) (Fr.up (S := fun k => k = c) rfl) hc
theorem go_sum {σ σ1 : SG} {v x : Int32} {l l' : List Nat} {th la bo th' la' bo' : Nat} {s1 s2 s3 s4 s5 s6 : SG} (h : Sm σ v l th la bo) (hD : Dt σ x l' la' bo') (ht : σ 38 10 = nI th') (e1 : s1 = up σ 45 0 (σ 45 0 + σ 38 8)) (e2 : s2 = up s1 45 1 (s1 45 1 + s1 38 7)) (e3 : s3 = up s2 45 2 (s2 45 2 + s2 38 9)) (e4 : s4 = up s3 45 3 (s3 45 3 + s3 38 10)) (e5 : s5 = up s4 45 4 (s4 45 4 + s4 38 11)) (e6 : s6 = up s5 45 5 (s5 45 5 + s5 38 12)) : Sm s6 (v + x) (l ++ l') (th + th') (la + la') (bo + bo') ∧ Fr (fun k => k = 45) σ s6 := by
  obtain ⟨a0, a1, a2, a3, a4, a5⟩ := h
  obtain ⟨b0, b1, b2, b3, b4, -⟩ := hD
  subst e1; subst e2; subst e3; subst e4; subst e5; subst e6
  refine ⟨⟨?_, ?_, ?_, ?_, ?_, ?_⟩, fun k hk => ?_⟩
  · simp [up_at, a0, b0]
  · simp [up_at, a1, b1, nj_plus]
  · simp [up_at, a2, b2, nj_plus, List.count_append]
  · simp [up_at, a3, ht, nj_plus]
  · simp [up_at, a4, b3, nj_plus]
  · simp [up_at, a5, b4, nj_plus]
  · have hk' : k ≠ 45 := hk
    rw [up_other hk', up_other hk', up_other hk', up_other hk', up_other hk', up_other hk']
