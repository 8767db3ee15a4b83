/-! ===== the reference's day ===== -/
def Dt (σ : SG) (v : Int32) (l : List Nat) (la bo : Nat) : Prop := σ 38 8 = v ∧ σ 38 7 = nI l.length ∧ σ 38 9 = nI (l.count 0) ∧ σ 38 11 = nI la ∧ σ 38 12 = nI bo ∧ ∀ i, i < l.length → σ 44 i = nI (l.getD i 0)
def FrY (c : Nat) (σ τ : SG) : Prop := (∀ k, k ≠ c → k ≠ 38 → k ≠ 44 → τ k = σ k) ∧ ∀ j, (j < 7 ∨ 12 < j) → τ 38 j = σ 38 j
theorem FrY.rf {c : Nat} {σ : SG} : FrY c σ σ := ⟨fun _ _ _ _ => rfl, fun _ _ => rfl⟩
theorem FrY.tr {c : Nat} {σ τ ρ : SG} (h : FrY c σ τ) (h' : FrY c τ ρ) : FrY c σ ρ := ⟨fun k a b d => (h'.1 k a b d).trans (h.1 k a b d), fun j hj => (h'.2 j hj).trans (h.2 j hj)⟩
theorem FrY.c {c : Nat} (hc : c ≠ 38) {σ : SG} {j : Nat} {v : Int32} : FrY c σ (up σ c j v) := ⟨fun k a _ _ => up_other a, fun j _ => by rw [up_other (fun z => hc z.symm)]⟩
theorem FrY.o {c : Nat} {σ : SG} {j : Nat} {v : Int32} (hj : 7 ≤ j ∧ j ≤ 12) : FrY c σ (up σ 38 j v) := ⟨fun k _ a _ => up_other a, fun j' h => up_elem (by omega)⟩
theorem FrY.e {c : Nat} {σ : SG} {j : Nat} {v : Int32} : FrY c σ (up σ 44 j v) := ⟨fun k _ _ a => up_other a, fun j _ => by rw [up_other (by decide)]⟩
theorem Dt.c {σ : SG} {v : Int32} {l : List Nat} {la bo c j : Nat} {x : Int32} (h : Dt σ v l la bo) (hc : c ≠ 38) (hc' : c ≠ 44) : Dt (up σ c j x) v l la bo := by
  unfold Dt
  rw [up_other (fun z => hc z.symm), up_other (fun z => hc' z.symm)]
  exact h
theorem Dt.fr {σ τ : SG} {v : Int32} {l : List Nat} {la bo : Nat} (h : Dt σ v l la bo) (h1 : ∀ j, 7 ≤ j → j ≤ 12 → j ≠ 10 → τ 38 j = σ 38 j) (h2 : τ 44 = σ 44) : Dt τ v l la bo := by
  unfold Dt
  rw [h1 8 (by omega) (by omega) (by omega), h1 7 (by omega) (by omega) (by omega), h1 9 (by omega) (by omega) (by omega), h1 11 (by omega) (by omega) (by omega), h1 12 (by omega) (by omega) (by omega), h2]
  exact h
theorem Dt.v {σ : SG} {v x : Int32} {l : List Nat} {la bo : Nat} (h : Dt σ v l la bo) : Dt (up σ 38 8 x) x l la bo := by
  obtain ⟨h0, h1, h2, h3, h4, h5⟩ := h
  refine ⟨up_same .., ?_, ?_, ?_, ?_, ?_⟩
  · rw [up_elem (by decide)]; exact h1
  · rw [up_elem (by decide)]; exact h2
  · rw [up_elem (by decide)]; exact h3
  · rw [up_elem (by decide)]; exact h4
  · rw [up_other (by decide)]; exact h5
theorem Dt.la {σ : SG} {v : Int32} {l : List Nat} {la bo x : Nat} (h : Dt σ v l la bo) : Dt (up σ 38 11 (nI x)) v l x bo := by
  obtain ⟨h0, h1, h2, h3, h4, h5⟩ := h
  refine ⟨?_, ?_, ?_, up_same .., ?_, ?_⟩
  · rw [up_elem (by decide)]; exact h0
  · rw [up_elem (by decide)]; exact h1
  · rw [up_elem (by decide)]; exact h2
  · rw [up_elem (by decide)]; exact h4
  · rw [up_other (by decide)]; exact h5
theorem Dt.bo {σ : SG} {v : Int32} {l : List Nat} {la bo x : Nat} (h : Dt σ v l la bo) : Dt (up σ 38 12 (nI x)) v l la x := by
  obtain ⟨h0, h1, h2, h3, h4, h5⟩ := h
  refine ⟨?_, ?_, ?_, ?_, up_same .., ?_⟩
  · rw [up_elem (by decide)]; exact h0
  · rw [up_elem (by decide)]; exact h1
  · rw [up_elem (by decide)]; exact h2
  · rw [up_elem (by decide)]; exact h3
  · rw [up_other (by decide)]; exact h5
theorem Dt.th {σ : SG} {v x : Int32} {l : List Nat} {la bo : Nat} (h : Dt σ v l la bo) : Dt (up σ 38 10 x) v l la bo := h.fr (fun j _ _ h3 => up_elem h3) (up_other (by decide))
/-- one more is eaten -/
theorem Dt.eat {σ σ1 σ2 σ3 : SG} {v : Int32} {l : List Nat} {la bo g : Nat} (h : Dt σ v l la bo) (e1 : σ1 = up σ 44 l.length (nI g)) (e2 : σ2 = up σ1 38 7 (nI (l.length + 1))) (e3 : σ3 = up σ2 38 9 (nI (l.count 0 + if g = 0 then 1 else 0))) : Dt σ3 v (l ++ [g]) la bo := by
  obtain ⟨h0, h1, h2, h3, h4, h5⟩ := h
  subst e1; subst e2; subst e3
  refine ⟨?_, ?_, ?_, ?_, ?_, fun i hi => ?_⟩
  · rw [up_elem (by decide), up_elem (by decide), up_other (by decide)]; exact h0
  · rw [up_elem (by decide), up_same]; simp
  · rw [up_same]
    congr 1
    rw [List.count_append, List.count_cons, List.count_nil]
    by_cases z : g = 0 <;> simp [z]
  · rw [up_elem (by decide), up_elem (by decide), up_other (by decide)]; exact h3
  · rw [up_elem (by decide), up_elem (by decide), up_other (by decide)]; exact h4
  · rw [up_other (by decide), up_other (by decide), up_at]
    rw [List.length_append, List.length_singleton] at hi
    by_cases z : i = l.length
    · rw [if_pos ⟨rfl, z⟩, z, getD_app_r (Nat.le_refl _), Nat.sub_self]
      rfl
    · rw [if_neg (fun y => z y.2), getD_app_l (by omega)]; exact h5 i (by omega)
theorem eat_step {a a2 : Row} {e W t g : Nat} {l2 : List Nat} (hE : eatS e W a = ((eatS e (W - t) a2).1, l2 ++ (eatS e (W - t) a2).2)) (hg : nxC a2 e = some g) (ht : t < W) : eatS e W a = ((eatS e (W - (t + 1)) (ua a2 (10 + g) (a2 (10 + g) - 1))).1, (l2 ++ [g]) ++ (eatS e (W - (t + 1)) (ua a2 (10 + g) (a2 (10 + g) - 1))).2) := by
  rw [hE, show W - t = (W - (t + 1)) + 1 by omega, eatS, hg]
  simp
theorem eat_exit {a a2 : Row} {e W t : Nat} {l2 : List Nat} (hE : eatS e W a = ((eatS e (W - t) a2).1, l2 ++ (eatS e (W - t) a2).2)) (h : W ≤ t ∨ nxC a2 e = none) : eatS e W a = (a2, l2) := by
  have h1 : eatS e (W - t) a2 = (a2, []) := by
    rcases h with h | h
    · rw [show W - t = 0 by omega]; rfl
    · exact eatS_none h _
  rw [hE, h1]; simp
theorem come_in {σ σ1 σ2 : SG} {c g k bo : Nat} {a : Row} {v v' : Int32} {l : List Nat} {la : Nat} (hc : c ≠ 38) (hc' : c ≠ 44) (hM : Mr σ c a) (hD : Dt σ v l la bo) (e1 : σ1 = up (up σ c (10 + g) (nI (a (10 + g) + k))) 38 12 (nI (bo + k))) (e2 : σ2 = up σ1 38 8 v') : Mr σ2 c (ua a (10 + g) (a (10 + g) + k)) ∧ Dt σ2 v' l la (bo + k) ∧ FrY c σ σ2 := by
  subst e1; subst e2
  refine ⟨(hM.u (k := 10 + g) (v := a (10 + g) + k)).fr ?_, ((hD.c hc hc').bo).v, ((FrY.c hc).tr (FrY.o ⟨by omega, by omega⟩)).tr (FrY.o ⟨by omega, by omega⟩)⟩
  rw [up_other hc, up_other hc]
