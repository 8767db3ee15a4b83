theorem nj_ne0 {m : Nat} (h : 1 ≤ m) (hm : m < 2 ^ 31) : ¬ nI m = 0 := fun q => by
  have := (nj_eq (a := m) (b := 0) hm (by omega)).mp q
  omega
theorem Bd.ue {a : Row} {e v : Nat} (h : Bd a) (he : e < 4) (hv : v ≤ 11) : Bd (ua a (30 + 4 * e + 1) v) := by
  obtain ⟨h0, b0, b1, b2, b3, b4, b5, b6, b7, bs, bp, be⟩ := h
  refine ⟨fun j => by have := h0 j; simp only [ua_at]; split <;> omega, ?_, ?_, ?_, ?_, ?_, ?_, ?_, ?_, fun k hk => ?_, fun k hk => ?_, fun e' he' => ?_⟩ <;> simp only [ua_at]
  all_goals first | (rw [if_neg (by omega)]; assumption) | skip
  · rw [if_neg (by omega)]; exact bs k hk
  · rw [if_neg (by omega)]; exact bp k hk
  · obtain ⟨e1, e2, e3, e4⟩ := be e' he'
    exact ⟨by rw [if_neg (by omega)]; exact e1, by split <;> omega, by rw [if_neg (by omega)]; exact e3, by rw [if_neg (by omega)]; exact e4⟩
theorem lt_step {a : Row} {s s2 : Int32} {d u : Nat} {q : Row} (hl : ltS a s d = (q, s2, u)) : ltS a s (d + 1) = (dyR (huL a s2) q 0, sdS s2 (a 0), u + dyT (huL a s2) q 0) := by
  show (dyR (huL a (ltS a s d).2.1) (ltS a s d).1 0, sdS (ltS a s d).2.1 (a 0), (ltS a s d).2.2 + dyT (huL a (ltS a s d).2.1) (ltS a s d).1 0) = _
  rw [hl]
theorem ly_step {a : Row} {z s : Int32} {y t : Nat} (h : lyS a z y = (s, t)) : lyS a z (y + 1) = ((ltS a s 28).2.1, t + (ltS a s 28).2.2) := by
  show ((ltS a (lyS a z y).1 28).2.1, (lyS a z y).2 + (ltS a (lyS a z y).1 28).2.2) = _
  rw [h]
theorem dN_lt (z : Int32) {m : Nat} (h : 0 < m) : dN z m < m := Nat.mod_lt _ h
theorem nj_of5 {x : Int32} {lo m : Nat} (h : ¬ (x < nI lo ∨ nI m < x)) (hl : lo < 2 ^ 31 := by decide) (hm : m < 2 ^ 31 := by decide) : ∃ k : Nat, lo ≤ k ∧ k ≤ m ∧ x = nI k :=
  nj_rng (lo := lo) (hi := m) ⟨Int32.not_lt.mp (fun z => h (Or.inl z)), Int32.not_lt.mp (fun z => h (Or.inr z))⟩ hl hm
