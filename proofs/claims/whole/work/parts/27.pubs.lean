theorem totV_of {σ : SG} {a : Row} {n j : Nat} (hT : Tl σ (nV a 0 n) (nD a 0 n).2.2.2.1 (nD a 0 n).2.2.2.2.1 (nD a 0 n).2.2.2.2.2.1 (nD a 0 n).2.2.2.2.2.2) (hj : j ≤ 5) : σ 29 j = totV a n j := by
  obtain ⟨h0, h1, h2, h3, h4, h5, -, -⟩ := hT
  have : j = 0 ∨ j = 1 ∨ j = 2 ∨ j = 3 ∨ j = 4 ∨ j = 5 := by omega
  rcases this with rfl | rfl | rfl | rfl | rfl | rfl
  · exact h0
  · exact h1
  · exact h2
  · exact h3
  · exact h4
  · exact h5
theorem shF_0 (a : Row) : shF a 0 = 0 := by unfold shF; split <;> rfl
theorem nD_F0 (a : Row) : ∀ n, (nD a 0 n).2.1 = 0
  | 0 => rfl
  | n + 1 => by show shF _ _ = 0; rw [nD_F0 a n]; exact shF_0 _
theorem losS_at (a : Row) (k : Nat) : ∀ m j, (j < 10 ∨ 15 ≤ j) → (losS a k m).1 j = a j := by
  intro m
  induction m with
  | zero => intro j _; rfl
  | succ m ih => intro j hj; show ua _ _ _ j = _; rw [ua_at, if_neg (by omega)]; exact ih j hj
theorem losS_le (a : Row) (k : Nat) : ∀ m j, (losS a k m).1 j ≤ a j := by
  intro m
  induction m with
  | zero => intro j; exact Nat.le_refl _
  | succ m ih =>
    intro j
    show ua _ _ _ j ≤ _
    rw [ua_at]
    split
    · rename_i h; rw [h]; exact Nat.le_trans (Nat.sub_le _ _) (ih _)
    · exact ih j
theorem losS_bd {a : Row} (h : Bd a) (k m : Nat) : Bd (losS a k m).1 := h.sm (fun j hj => losS_at a k m j hj) (losS_le a k m)
theorem sum5 {a : Row} (h : Bd a) : sumN (fun k => a (10 + k)) 5 ≤ 300 := by
  have h0 := h.2.2.2.2.2.2.2.2.2.1 0 (by omega)
  have h1 := h.2.2.2.2.2.2.2.2.2.1 1 (by omega)
  have h2 := h.2.2.2.2.2.2.2.2.2.1 2 (by omega)
  have h3 := h.2.2.2.2.2.2.2.2.2.1 3 (by omega)
  have h4 := h.2.2.2.2.2.2.2.2.2.1 4 (by omega)
  show 0 + a (10 + 0) + a (10 + 1) + a (10 + 2) + a (10 + 3) + a (10 + 4) ≤ 300
  omega
theorem sum7 {a : Row} (h : Bd a) : sumN (fun k => a (20 + k)) 7 ≤ 7 := by
  have g := h.2.2.2.2.2.2.2.2.2.2.1
  have h0 := g 0 (by omega)
  have h1 := g 1 (by omega)
  have h2 := g 2 (by omega)
  have h3 := g 3 (by omega)
  have h4 := g 4 (by omega)
  have h5 := g 5 (by omega)
  have h6 := g 6 (by omega)
  show 0 + a (20 + 0) + a (20 + 1) + a (20 + 2) + a (20 + 3) + a (20 + 4) + a (20 + 5) + a (20 + 6) ≤ 7
  omega
theorem Ch.fr {σ τ : SG} {p : Int32 × Int32} (h : Ch σ p) (hf : τ 31 = σ 31) : Ch τ p := by unfold Ch; rw [hf]; exact h
theorem Ch.clr {σ τ : SG} (f : Nat → Int32) (ok : Nat → Bool) (h : τ = up (up σ 31 0 (-9)) 31 1 0) : Ch τ (chF f ok 0) ∧ Fr inM σ τ := by
  subst h
  exact ⟨⟨by simp [up_at, chF], by simp [up_at, chF]⟩, (Fr.up (S := inM) ⟨by decide, by decide⟩).tr (Fr.up (S := inM) ⟨by decide, by decide⟩) (fun _ z => z)⟩
theorem chF_t {f : Nat → Int32} {ok : Nat → Bool} {k : Nat} (h : ok k = true) : chF f ok (k + 1) = stC (chF f ok k) k (f k) := if_pos h
theorem chF_f {f : Nat → Int32} {ok : Nat → Bool} {k : Nat} (h : ok k = false) : chF f ok (k + 1) = chF f ok k := if_neg (by rw [h]; decide)
theorem fr_M31 : ∀ k, k = 31 → inM k := fun k z => by subst z; exact ⟨by decide, by decide⟩
theorem nev_step0 {a : Row} {m : Nat} (h : 0 < (dyL (hun a) a 0).count 0) : nevS (m + 1) a = 0 := if_pos h
theorem nev_step1 {a : Row} {m : Nat} (h : ¬ 0 < (dyL (hun a) a 0).count 0) : nevS (m + 1) a = nevS m (dyR (hun a) a 0) + 1 := if_neg h
