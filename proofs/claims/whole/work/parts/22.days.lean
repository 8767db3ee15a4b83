/-! ===== DAYS in mind ===== -/
def nD (a : Row) (fw : Nat) : Nat → Row × Nat × Int32 × List Nat × Nat × Nat × Nat
  | 0 => (a, fw, 0, [], 0, 0, 0)
  | n + 1 => let p := nD a fw n
    (dyR (hun p.1) p.1 p.2.1, shF p.1 p.2.1, p.2.2.1 + dyV (hun p.1) p.1 p.2.1, p.2.2.2.1 ++ dyL (hun p.1) p.1 p.2.1, p.2.2.2.2.1 + dyT (hun p.1) p.1 p.2.1, p.2.2.2.2.2.1 + dyK (hun p.1) p.1 p.2.1, p.2.2.2.2.2.2 + shB p.1 p.2.1)
abbrev nV (a : Row) (fw n : Nat) : Int32 := (nD a fw n).2.2.1
theorem dyE_sm (hu : Nat → Nat) (a : Row) (fw : Nat) : SmE a (dyE hu a fw).1 := (shR_sm a fw).tr (eaS_sm hu (shR a fw) (a 0)).1
theorem dyR_at (hu : Nat → Nat) (a : Row) (fw j : Nat) (hj : j < 10 ∨ 15 ≤ j) (h1 : j ≠ 1) : dyR hu a fw j = a j := by
  unfold dyR shiftR
  rw [if_neg (by omega), if_neg h1, if_neg (by omega)]
  exact dyE_sm hu a fw j hj
theorem dyR_1 (hu : Nat → Nat) (a : Row) (fw : Nat) : dyR hu a fw 1 = a 1 + 1 := by
  unfold dyR shiftR
  rw [if_neg (by omega), if_pos rfl, dyE_sm hu a fw 1 (by omega)]
theorem dyR_bd {hu : Nat → Nat} {a : Row} {fw : Nat} (hB : Bd a) (h1 : a 1 ≤ 29000) : Bd (dyR hu a fw) := by
  have hB2 : Bd (dyE hu a fw).1 := (shR_bd hB fw).sm (eaS_sm hu (shR a fw) (a 0)).1 (eaS_sm hu (shR a fw) (a 0)).2
  obtain ⟨c0, c1, c2, c3, c4, c5, c6, c7, c8, cs, cp, ce⟩ := hB2
  have e1 : (dyE hu a fw).1 1 = a 1 := dyE_sm hu a fw 1 (by omega)
  have key : ∀ j, (j < 10 ∨ 15 ≤ j) → j ≠ 1 → dyR hu a fw j = (dyE hu a fw).1 j := fun j hj hn => by
    unfold dyR shiftR
    rw [if_neg (by omega), if_neg hn, if_neg (by omega)]
  refine ⟨fun j => ?_, by rw [key 0 (by omega) (by omega)]; exact c1, by rw [dyR_1]; omega, by rw [key 2 (by omega) (by omega)]; exact c3, by rw [key 3 (by omega) (by omega)]; exact c4, by rw [key 4 (by omega) (by omega)]; exact c5, by rw [key 5 (by omega) (by omega)]; exact c6, by rw [key 6 (by omega) (by omega)]; exact c7, by rw [key 7 (by omega) (by omega)]; exact c8, fun k hk => ?_, fun k hk => by rw [key _ (by omega) (by omega)]; exact cp k hk, fun e he => by rw [key _ (by omega) (by omega), key _ (by omega) (by omega), key _ (by omega) (by omega), key _ (by omega) (by omega)]; exact ce e he⟩
  · unfold dyR shiftR
    have := c0 j
    have := c0 (j - 1)
    split
    · omega
    · split
      · omega
      · split <;> omega
  · unfold dyR shiftR
    split
    · omega
    · rw [if_neg (by omega), if_pos (by omega)]
      have := cs (k - 1) (by omega)
      rw [show 10 + k - 1 = 10 + (k - 1) by omega]
      exact this
theorem nD_bd {a : Row} {fw : Nat} (hB : Bd a) (h1 : a 1 ≤ 28000) (hf : fw ≤ a 2) : ∀ n, n ≤ 900 → Bd (nD a fw n).1 ∧ (nD a fw n).1 1 = a 1 + n ∧ (nD a fw n).2.1 ≤ a 2 ∧ (nD a fw n).1 2 = a 2 := by
  intro n
  induction n with
  | zero => intro _; exact ⟨hB, rfl, hf, rfl⟩
  | succ n ih =>
    intro hn
    obtain ⟨i1, i2, i3, i4⟩ := ih (by omega)
    refine ⟨dyR_bd i1 (by omega), ?_, ?_, ?_⟩
    · show dyR _ _ _ 1 = _
      rw [dyR_1, i2]; omega
    · show shF _ _ ≤ _
      unfold shF
      split <;> omega
    · show dyR _ _ _ 2 = _
      rw [dyR_at _ _ _ 2 (by omega) (by omega), i4]
theorem dyL_len {a : Row} (hB : Bd a) (fw : Nat) : (dyL (hun a) a fw).length ≤ 44 := by
  have := eaS_len4 hB.2.2.2.2.2.2.2.2.2.2.2 hB.2.1 (shR a fw) (a 0) (Nat.le_refl _)
  have h0 := hB.2.1
  unfold dyL dyE
  omega
theorem nD_len {a : Row} {fw : Nat} (hB : Bd a) (h1 : a 1 ≤ 28000) (hf : fw ≤ a 2) : ∀ n, n ≤ 900 → (nD a fw n).2.2.2.1.length ≤ 44 * n := by
  intro n
  induction n with
  | zero => intro _; exact Nat.le_refl _
  | succ n ih =>
    intro hn
    have h2 := dyL_len (nD_bd hB h1 hf n (by omega)).1 (nD a fw n).2.1
    have h3 := ih (by omega)
    show ((nD a fw n).2.2.2.1 ++ dyL _ _ _).length ≤ _
    rw [List.length_append]
    omega
/-! the choice: what brings most, of several the first -/
def stC (p : Int32 × Int32) (x : Nat) (v : Int32) : Int32 × Int32 := if p.1 = -9 ∨ p.2 < v then (nI x, v) else p
def chF (f : Nat → Int32) (ok : Nat → Bool) : Nat → Int32 × Int32
  | 0 => (-9, 0)
  | k + 1 => if ok k = true then stC (chF f ok k) k (f k) else chF f ok k
def Ch (σ : SG) (p : Int32 × Int32) : Prop := σ 31 0 = p.1 ∧ σ 31 1 = p.2
theorem Ch.offer {σ τ : SG} {p : Int32 × Int32} (h : Ch σ p) {x : Nat} {v : Int32} (ht : τ = if σ 31 0 = -9 ∨ σ 31 1 < v then up (up σ 31 0 (nI x)) 31 1 v else σ) : Ch τ (stC p x v) ∧ Fr (fun k => k = 31) σ τ := by
  obtain ⟨h1, h2⟩ := h
  rw [h1, h2] at ht
  unfold stC
  by_cases q : p.1 = -9 ∨ p.2 < v
  · rw [if_pos q] at ht ⊢
    subst ht
    exact ⟨⟨by simp [up_at], by simp [up_at]⟩, (Fr.up (S := fun k => k = 31) rfl).tr (Fr.up (S := fun k => k = 31) rfl) (fun _ z => z)⟩
  · rw [if_neg q] at ht ⊢
    subst ht
    exact ⟨⟨h1, h2⟩, Fr.rf⟩
abbrev D9 (a : Row) : Prop := a 1 ≤ 9999 ∧ ∀ e, e < 4 → a (30 + 4 * e + 1) ≤ 9
/-- what there is: the household here, with its bounds -/
def HR (σ : SG) (a : Row) : Prop := Hh σ 1 a ∧ Bd a ∧ σ 1 6 = nI 0 ∧ D9 a
theorem HR.fr {σ τ : SG} {a : Row} (h : HR σ a) (hf : ∀ k, 1 ≤ k → k ≤ 9 → τ k = σ k) : HR τ a := ⟨h.1.fr (fun k z1 z2 => hf k z1 (by omega)), h.2.1, by rw [hf 1 (by omega) (by omega)]; exact h.2.2.1, h.2.2.2⟩
/-- the cells of what is thought, the tally, the choice -/
abbrev inM : Nat → Prop := fun k => 19 ≤ k ∧ k ≤ 31
theorem HR.m {σ τ : SG} {a : Row} (h : HR σ a) (hf : Fr inM σ τ) : HR τ a := h.fr (fun k z1 z2 => hf k (fun z => by obtain ⟨z3, z4⟩ := z; omega))
theorem inD_M : ∀ k, inD 19 k → inM k := fun k z => z.elim (fun ⟨z1, z2⟩ => ⟨by omega, by omega⟩) (fun ⟨z1, z2⟩ => ⟨by omega, by omega⟩)
theorem inH_M : ∀ k, inH 19 k → inM k := fun k ⟨z1, z2⟩ => ⟨by omega, by omega⟩
theorem Bd.ut {a : Row} {s v : Nat} (hB : Bd a) (hs : s < 6) (hv : nI v ≤ mosF s) (hv9 : v ≤ 1000) : Bd (ua a (2 + s) v) := by
  obtain ⟨h0, b0, b1, b2, b3, b4, b5, b6, b7, bs, bp, be⟩ := hB
  have hm : v ≤ [30, 9, 9, 9, 9, 5].getD s 0 := by
    have : s = 0 ∨ s = 1 ∨ s = 2 ∨ s = 3 ∨ s = 4 ∨ s = 5 := by omega
    rcases this with rfl | rfl | rfl | rfl | rfl | rfl
    · exact (nj_le (a := v) (b := 30) (by omega) (by omega)).mp hv
    · exact (nj_le (a := v) (b := 9) (by omega) (by omega)).mp hv
    · exact (nj_le (a := v) (b := 9) (by omega) (by omega)).mp hv
    · exact (nj_le (a := v) (b := 9) (by omega) (by omega)).mp hv
    · exact (nj_le (a := v) (b := 9) (by omega) (by omega)).mp hv
    · exact (nj_le (a := v) (b := 5) (by omega) (by omega)).mp hv
  have : s = 0 ∨ s = 1 ∨ s = 2 ∨ s = 3 ∨ s = 4 ∨ s = 5 := by omega
  rcases this with rfl | rfl | rfl | rfl | rfl | rfl <;> simp at hm <;>
  (refine ⟨fun j => by have := h0 j; simp only [ua_at]; split <;> omega, ?_, ?_, ?_, ?_, ?_, ?_, ?_, ?_, fun k hk => ?_, fun k hk => ?_, fun e he => ?_⟩ <;> simp only [ua_at]
   all_goals first | (rw [if_neg (by omega)]; assumption) | (rw [if_pos trivial]; omega) | (rw [if_pos (by omega)]; omega) | (rw [if_neg (by omega)]; exact bs k hk) | (rw [if_neg (by omega)]; exact bp k hk) | (rw [if_neg (by omega), if_neg (by omega), if_neg (by omega), if_neg (by omega)]; exact be e he))
