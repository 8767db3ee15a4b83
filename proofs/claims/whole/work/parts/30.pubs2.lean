theorem i2c_id {c : Nat} (h : c ≤ 255) : ((nI c).toUInt32 % 65536).toInt32 = nI c := by
  have : ∀ k : Fin 256, ((nI k.val).toUInt32 % 65536).toInt32 = nI k.val := by decide +kernel
  exact this ⟨c, by omega⟩
theorem nar_id {c : Nat} (h : c ≤ 255) : vp_nar .char (nI c) = nI c := by
  have : ∀ k : Fin 256, vp_nar .char (nI k.val) = nI k.val := by decide +kernel
  exact this ⟨c, by omega⟩
theorem nj_rng {x : Int32} {lo hi : Nat} (h : nI lo ≤ x ∧ x ≤ nI hi) (hl : lo < 2 ^ 31 := by decide) (hh : hi < 2 ^ 31 := by decide) : ∃ k, lo ≤ k ∧ k ≤ hi ∧ x = nI k := by
  obtain ⟨h0, h1⟩ := h
  rw [Int32.le_iff_toInt_le, nj_toInt hl] at h0
  rw [Int32.le_iff_toInt_le, nj_toInt hh] at h1
  refine ⟨x.toInt.toNat, by omega, by omega, ?_⟩
  rw [← Int32.toInt_inj, nj_toInt (by omega)]; omega
theorem CX.let {σ τ : SG} {A : AS} (h : CX σ A) (hl : Al A < 96) {c : Nat} (hc : c ≤ 255) (ht : τ = up (up σ 33 (Al A) (nI c)) 32 1 (nI (Al A + 1))) : CX τ (sAl A (Al A + 1) (fun j => if j = Al A then c else Ac A j)) := by
  obtain ⟨⟨i1, i2, i3, i4, i5, i6, i7⟩, h1, h2, h3, h4, h5, h6⟩ := h
  have e : ∀ q, q ≠ 32 → q ≠ 33 → τ q = σ q := fun q q1 q2 => by rw [ht, up_other q1, up_other q2]
  refine ⟨⟨i1, i2, i3, by show Al A + 1 ≤ 96; omega, fun j hj => ?_, i6, i7⟩, h1.fr (fun k z1 z2 => e k (by omega) (by omega)), fun hk => ⟨(h2 hk).1.fr (fun k z1 z2 => e k (by omega) (by omega)), by rw [e 10 (by omega) (by omega)]; exact (h2 hk).2⟩, by rw [e 0 (by omega) (by omega)]; exact h3, ⟨by rw [ht, up_same], fun j hj => ?_⟩, by rw [e 0 (by omega) (by omega), e 34 (by omega) (by omega)]; exact h5, by rw [e 35 (by omega) (by omega)]; exact h6⟩
  · show (if j = Al A then c else Ac A j) ≤ 255
    have hj' : j < Al A + 1 := hj
    split
    · exact hc
    · exact i5 j (by omega)
  · have hj' : j < Al A + 1 := hj
    rw [ht, up_other (by decide), up_at]
    show _ = nI (if j = Al A then c else Ac A j)
    by_cases z : j = Al A
    · rw [if_pos ⟨rfl, z⟩, if_pos z]
    · rw [if_neg (fun y => z y.2), if_neg z]; exact h4.2 j (by omega)
theorem CX.rw1 {σ τ : SG} {A : AS} (h : CX σ A) (hl : An A < 20) {c : Nat} (hc : c ≤ 99) (ht : τ = up (up σ 34 (An A) (nI c)) 0 10 (nI (An A + 1))) : CX τ (sAn A (An A + 1) (fun j => if j = An A then c else As' A j)) := by
  obtain ⟨⟨i1, i2, i3, i4, i5, i6, i7⟩, h1, h2, h3, h4, h5, h6⟩ := h
  have e : ∀ q, q ≠ 0 → q ≠ 34 → τ q = σ q := fun q q1 q2 => by rw [ht, up_other q1, up_other q2]
  refine ⟨⟨i1, i2, i3, i4, i5, by show An A + 1 ≤ 20; omega, fun j hj => ?_⟩, h1.fr (fun k z1 z2 => e k (by omega) (by omega)), fun hk => ⟨(h2 hk).1.fr (fun k z1 z2 => e k (by omega) (by omega)), by rw [e 10 (by omega) (by omega)]; exact (h2 hk).2⟩, by rw [ht, up_elem (by decide), up_other (by decide)]; exact h3, by rw [e 32 (by omega) (by omega), e 33 (by omega) (by omega)]; exact h4, ⟨by rw [ht, up_same], fun j hj => ?_⟩, by rw [e 35 (by omega) (by omega)]; exact h6⟩
  · show (if j = An A then c else As' A j) ≤ 99
    have hj' : j < An A + 1 := hj
    split
    · exact hc
    · exact i7 j (by omega)
  · have hj' : j < An A + 1 := hj
    rw [ht, up_other (by decide), up_at]
    show _ = nI (if j = An A then c else As' A j)
    by_cases z : j = An A
    · rw [if_pos ⟨rfl, z⟩, if_pos z]
    · rw [if_neg (fun y => z y.2), if_neg z]; exact h5.2 j (by omega)
theorem CX.rw0 {σ τ : SG} {A : AS} (h : CX σ A) (ht : τ = up σ 0 10 0) : CX τ (sAn A 0 (As' A)) := by
  obtain ⟨⟨i1, i2, i3, i4, i5, i6, i7⟩, h1, h2, h3, h4, h5, h6⟩ := h
  have e : ∀ q, q ≠ 0 → τ q = σ q := fun q q1 => by rw [ht, up_other q1]
  exact ⟨⟨i1, i2, i3, i4, i5, Nat.zero_le _, fun j hj => absurd hj (Nat.not_lt_zero _)⟩, h1.fr (fun k z1 z2 => e k (by omega)), fun hk => ⟨(h2 hk).1.fr (fun k z1 z2 => e k (by omega)), by rw [e 10 (by omega)]; exact (h2 hk).2⟩, by rw [ht, up_elem (by decide)]; exact h3, by rw [e 32 (by omega), e 33 (by omega)]; exact h4, ⟨by rw [ht, up_same]; rfl, fun j hj => absurd hj (Nat.not_lt_zero _)⟩, by rw [e 35 (by omega)]; exact h6⟩
theorem CX.img {σ τ ρ : SG} {A : AS} (h : CX σ A) (hH : Hh τ 10 (Aa A)) (h6 : τ 10 6 = nI 0) (hF : Fr (inH 10) σ τ) (ht : ρ = up τ 0 11 1) : CX ρ (sAk A) := by
  obtain ⟨⟨i1, i2, i3, i4, i5, i6, i7⟩, h1, h2, h3, h4, h5, h7⟩ := h
  have e : ∀ q, q ≠ 0 → ¬ inH 10 q → ρ q = σ q := fun q q1 q2 => by rw [ht, up_other q1, hF q q2]
  have e1 : ∀ q, q ≠ 0 → ρ q = τ q := fun q q1 => by rw [ht, up_other q1]
  refine ⟨⟨i1, fun _ => i1, Nat.le_refl 1, i4, i5, i6, i7⟩, h1.fr (fun k z1 z2 => e k (by omega) (by unfold inH; omega)), fun _ => ⟨hH.fr (fun k z1 z2 => e1 k (by omega)), by rw [e1 10 (by omega)]; exact h6⟩, by rw [ht, up_same]; rfl, by rw [e 32 (by omega) (by unfold inH; omega), e 33 (by omega) (by unfold inH; omega)]; exact h4, ?_, by rw [e 35 (by omega) (by unfold inH; omega)]; exact h7⟩
  rw [ht, up_elem (by decide), up_other (by decide), hF 0 (by unfold inH; omega), hF 34 (by unfold inH; omega)]
  exact h5
theorem CX.on {σ τ : SG} {A : AS} (h : CX σ A) (hk : At A = 1) (hH : Hh τ 1 (Ak A)) (h6 : τ 1 6 = nI 0) (hF : Fr (inH 1) σ τ) : CX τ (sAa A (Ak A)) :=
  h.her (fun k z1 z2 => hF k (fun z => z1 ⟨z.1, by have := z.2; omega⟩)) ⟨hH, (h.1.2.1 hk).1, h6, (h.1.2.1 hk).2⟩
theorem dyT_le {hu : Nat → Nat} {a : Row} (hB : Bd a) (fw : Nat) : dyT hu a fw ≤ 60 := by
  have hB2 : Bd (dyE hu a fw).1 := (shR_bd hB fw).sm (eaS_sm hu (shR a fw) (a 0)).1 (eaS_sm hu (shR a fw) (a 0)).2
  exact hB2.2.2.2.2.2.2.2.2.2.1 4 (by omega)
theorem thOK_no {a : Row} {ns : Nat → Nat} {k : Nat} (h : thOK a ns k = false) : ∀ n, k ≤ n → thOK a ns n = false := by
  intro n
  induction n with
  | zero => intro hk; have hk0 : k = 0 := by omega
            rw [← hk0]; exact h
  | succ n ih =>
    intro hk
    by_cases z : k = n + 1
    · rw [← z]; exact h
    · rw [thOK, ih (by omega)]; rfl
theorem jd_hit {L : List Nat} {ns : Nat → Nat} {n i : Nat} (hi : i < n) (hb : L.length ≤ i ∨ L.getD i 0 ≠ ns i) (hn : ∀ j, j < i → ¬ (L.length ≤ j ∨ L.getD j 0 ≠ ns j)) : jdS L ns n = nI i := by
  unfold jdS
  have : (List.range n).find? (fun i => decide (L.length ≤ i ∨ L.getD i 0 ≠ ns i)) = some i := by
    rw [List.find?_range_eq_some]
    exact ⟨decide_eq_true hb, List.mem_range.mpr hi, fun j hj => by simp only [Bool.not_eq_true', decide_eq_false_iff_not]; exact hn j hj⟩
  rw [this]; rfl
theorem jd_none {L : List Nat} {ns : Nat → Nat} {n : Nat} (hn : ∀ j, j < n → ¬ (L.length ≤ j ∨ L.getD j 0 ≠ ns j)) : jdS L ns n = -9 := by
  unfold jdS
  have : (List.range n).find? (fun i => decide (L.length ≤ i ∨ L.getD i 0 ≠ ns i)) = none := by
    rw [List.find?_eq_none]
    intro j hj
    have := hn j (List.mem_range.mp hj)
    simp only [decide_eq_true_eq]; exact this
  rw [this]; rfl
theorem eatS_4 (e : Nat) : ∀ n a g, g ∈ (eatS e n a).2 → g ≤ 4 := by
  intro n
  induction n with
  | zero => intro a g h; simp [eatS] at h
  | succ n ih =>
    intro a g h
    rw [eatS] at h
    cases hn : nxC a e with
    | none => rw [hn] at h; simp at h
    | some f =>
      rw [hn] at h
      simp only [List.mem_cons] at h
      rcases h with h | h
      · have := (nxC_spec hn).1; omega
      · exact ih _ g h
theorem eaS_4 (hu : Nat → Nat) (a : Row) : ∀ n g, g ∈ (eaS hu a n).2.1 → g ≤ 4 := by
  intro n
  induction n with
  | zero => intro g h; simp [eaS] at h
  | succ n ih =>
    intro g h
    have h' : g ∈ (eaS hu a n).2.1 ++ (eatS n (wan (eaS hu a n).1 (hu n)) (eaS hu a n).1).2 := h
    rcases List.mem_append.mp h' with h | h
    · exact ih g h
    · exact eatS_4 n _ _ g h
theorem dyL_4 (a : Row) (i : Nat) : (dyL (hun a) a 0).getD i 0 ≤ 4 := by
  rw [List.getD_eq_getElem?_getD]
  cases h : (dyL (hun a) a 0)[i]? with
  | none => simp
  | some g => exact eaS_4 _ _ _ g (List.mem_of_getElem? h)
